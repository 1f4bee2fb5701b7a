/-! CONTRACTS b, printed by a program -/
/-! b62 X10_layFrom -/
def as_b62 : List ev_V := [(2, 83, 0), (0, 1, 0), (11, 2147483648, 2147483656), (11, 0, 4294967295)]
def E_b62 : e2_E := [(2147483648, 2147583648, 0, 0), (2147483648, 2147483656, 1, 0), (2147483648, 2147483688, 2, 0), (2147483648, 2147483688, 3, 0)]
noncomputable def f_b62 : ev_H := (bn459 : e2_Q8)
noncomputable def q_b62_0 : ev_H := (bn459 : e2_Q8)
noncomputable def rs_b62 : e2_Rs := [((9, 0, 0), q_b62_0)]
noncomputable def s_b62 : e2_Sm := (229, as_b62, E_b62, f_b62, rs_b62)
noncomputable def S_b62 : List e2_Sm := []
noncomputable def I_b62 : List e2_In := [(215, 2, e2x_215), (216, 1, e2x_216), (217, 1, e2x_217), (225, 5, e2x_225), (226, 3, e2x_226), (227, 2, e2x_227), (228, 3, e2x_228)]
set_option maxRecDepth 1000000 in
theorem co_b62 : e2_okSB E_b62.length as_b62 f_b62 rs_b62 = true := by decide +kernel
def al_b62_0 : List ev_V := [(2, 83, 0), (0, 1, 0), (11, 2147483648, 2147483656), (11, 0, 4294967295), (11, 2147483657, 2147483665), (1, 4, 4294967296), (9, 0, 0), (9, 0, 0)]
def E_b62_0 : e2_E := [(2147483648, 2147583648, 0, 0), (2147483648, 2147483656, 1, 0), (2147483648, 2147483688, 2, 0), (2147483648, 2147483688, 3, 0), (2147483648, 2147483656, 4, 0)]
noncomputable def h_b62_0 : ev_H := (bn459 : e2_Q8)
noncomputable def cl_b62_e : List (Nat × e2_S) := [(28, e2_cutL (al_b62_0.set 5 (11, 2147483648, 2147483656)) 4 (E_b62_0.take 4) h_b62_0)]
set_option maxRecDepth 1000000 in
theorem ck_b62_e : e2_run (e2_cal S_b62 I_b62 4000 2) (e2_fin rs_b62) e2x_229 (e2_bpL cl_b62_e) (e2_cutA cl_b62_e) 4000 (e2_seek e2x_229 0) (e2_al 8 as_b62) [] E_b62 f_b62 = true := by decide +kernel
noncomputable def cl_b62_0 : List (Nat × e2_S) := [(28, e2_cutL (al_b62_0.set 5 (13, 12, 2147483656)) 4 (E_b62_0.take 4) h_b62_0)]
set_option maxRecDepth 1000000 in
theorem ck_b62_0 : e2_runM (e2_cal S_b62 I_b62 4000 2) (e2_fin rs_b62) e2x_229 (e2_bpL cl_b62_0) (e2_cutA cl_b62_0) 4000 (e2_seek e2x_229 28) al_b62_0 [] E_b62_0 h_b62_0 = true := by decide +kernel
set_option maxRecDepth 1000000 in
theorem ci_b62_0 : e2_idl 4 (al_b62_0.set 5 (9, 0, 0)) = true := by decide +kernel
set_option maxRecDepth 1000000 in
theorem cj_b62_0 : e2_idh 4 8 h_b62_0 = true := by decide +kernel
theorem cs_b62 (hen : en_ok) (l : Launch) : e2_smOk l 3 s_b62 := by
  refine e2_conG (H := 0) (n := 2) (C := evd_229) (S := S_b62) (I := I_b62) (fuel := 4000) hen ei_229 e2_fz (e2_fa ein_215 (e2_fa ein_216 (e2_fa ein_217 (e2_fa ein_225 (e2_fa ein_226 (e2_fa ein_227 (e2_fa ein_228 e2_fz))))))) (by decide) co_b62 fun M d _ hC hcall p e R s m args below meth c Q D cA A ads r0 ha hl0 => ?_
  have L_0 : e2_gdM M p l e R s m args below meth c Q D cA A ads r0 28 al_b62_0 [] E_b62_0 h_b62_0 := by
    refine e2_indL (u := 4) (j := 5) (lo := 2147483648) (hi := 2147483656) (b := 4) (dd := 0) hl0 (by decide) rfl rfl (Or.inr ⟨rfl, rfl⟩) rfl ci_b62_0 cj_b62_0 ?_
    intro r_0 k_0 hk_0 hp_0 hs_0 hn_0
    have hl_0 : r_0.length ≤ 5 := hs_0.len rfl
    have ha_0 := ha.ext hp_0
    exact e2_fromM hen ha_0 hcall (e2_cutA_ok (e2_fa (fun al st E h hc => hn_0 al st E h hc) e2_fz)) (hC [28]) (X := e2x_229) ex2_229 28 ck_b62_0
  have EN_0 := e2_entL (u := 4) (j := 5) (lo := 2147483648) (hi := 2147483656) hl0 rfl rfl rfl ci_b62_0 cj_b62_0 L_0
  exact e2_from hen ha hcall (e2_cutA_ok (e2_fa (fun al st E h hc => EN_0 al st E h hc) e2_fz)) (hC [28]) (X := e2x_229) ex2_229 0 ck_b62_e
/-! b63 X10_layFrom -/
def as_b63 : List ev_V := [(2, 83, 0), (0, 0, 0), (11, 2147483648, 2147483656), (11, 0, 4294967295)]
def E_b63 : e2_E := [(2147483648, 2147583648, 0, 0), (2147483648, 2147483656, 1, 0), (2147483648, 2147483688, 2, 0), (2147483648, 2147483688, 3, 0)]
noncomputable def f_b63 : ev_H := (bn459 : e2_Q8)
noncomputable def q_b63_0 : ev_H := (bn459 : e2_Q8)
noncomputable def rs_b63 : e2_Rs := [((9, 0, 0), q_b63_0)]
noncomputable def s_b63 : e2_Sm := (229, as_b63, E_b63, f_b63, rs_b63)
noncomputable def S_b63 : List e2_Sm := []
noncomputable def I_b63 : List e2_In := [(215, 2, e2x_215), (216, 1, e2x_216), (217, 1, e2x_217), (225, 5, e2x_225), (226, 3, e2x_226), (227, 2, e2x_227), (228, 3, e2x_228)]
set_option maxRecDepth 1000000 in
theorem co_b63 : e2_okSB E_b63.length as_b63 f_b63 rs_b63 = true := by decide +kernel
def al_b63_0 : List ev_V := [(2, 83, 0), (0, 0, 0), (11, 2147483648, 2147483656), (11, 0, 4294967295), (11, 2147483648, 2147483656), (1, 4, 4294967296), (9, 0, 0), (9, 0, 0)]
def E_b63_0 : e2_E := [(2147483648, 2147583648, 0, 0), (2147483648, 2147483656, 1, 0), (2147483648, 2147483688, 2, 0), (2147483648, 2147483688, 3, 0), (2147483648, 2147483656, 4, 0)]
noncomputable def h_b63_0 : ev_H := (bn459 : e2_Q8)
noncomputable def cl_b63_e : List (Nat × e2_S) := [(28, e2_cutL (al_b63_0.set 5 (11, 2147483648, 2147483656)) 4 (E_b63_0.take 4) h_b63_0)]
set_option maxRecDepth 1000000 in
theorem ck_b63_e : e2_run (e2_cal S_b63 I_b63 4000 2) (e2_fin rs_b63) e2x_229 (e2_bpL cl_b63_e) (e2_cutA cl_b63_e) 4000 (e2_seek e2x_229 0) (e2_al 8 as_b63) [] E_b63 f_b63 = true := by decide +kernel
noncomputable def cl_b63_0 : List (Nat × e2_S) := [(28, e2_cutL (al_b63_0.set 5 (13, 12, 2147483656)) 4 (E_b63_0.take 4) h_b63_0)]
set_option maxRecDepth 1000000 in
theorem ck_b63_0 : e2_runM (e2_cal S_b63 I_b63 4000 2) (e2_fin rs_b63) e2x_229 (e2_bpL cl_b63_0) (e2_cutA cl_b63_0) 4000 (e2_seek e2x_229 28) al_b63_0 [] E_b63_0 h_b63_0 = true := by decide +kernel
set_option maxRecDepth 1000000 in
theorem ci_b63_0 : e2_idl 4 (al_b63_0.set 5 (9, 0, 0)) = true := by decide +kernel
set_option maxRecDepth 1000000 in
theorem cj_b63_0 : e2_idh 4 8 h_b63_0 = true := by decide +kernel
theorem cs_b63 (hen : en_ok) (l : Launch) : e2_smOk l 3 s_b63 := by
  refine e2_conG (H := 0) (n := 2) (C := evd_229) (S := S_b63) (I := I_b63) (fuel := 4000) hen ei_229 e2_fz (e2_fa ein_215 (e2_fa ein_216 (e2_fa ein_217 (e2_fa ein_225 (e2_fa ein_226 (e2_fa ein_227 (e2_fa ein_228 e2_fz))))))) (by decide) co_b63 fun M d _ hC hcall p e R s m args below meth c Q D cA A ads r0 ha hl0 => ?_
  have L_0 : e2_gdM M p l e R s m args below meth c Q D cA A ads r0 28 al_b63_0 [] E_b63_0 h_b63_0 := by
    refine e2_indL (u := 4) (j := 5) (lo := 2147483648) (hi := 2147483656) (b := 4) (dd := 0) hl0 (by decide) rfl rfl (Or.inr ⟨rfl, rfl⟩) rfl ci_b63_0 cj_b63_0 ?_
    intro r_0 k_0 hk_0 hp_0 hs_0 hn_0
    have hl_0 : r_0.length ≤ 5 := hs_0.len rfl
    have ha_0 := ha.ext hp_0
    exact e2_fromM hen ha_0 hcall (e2_cutA_ok (e2_fa (fun al st E h hc => hn_0 al st E h hc) e2_fz)) (hC [28]) (X := e2x_229) ex2_229 28 ck_b63_0
  have EN_0 := e2_entL (u := 4) (j := 5) (lo := 2147483648) (hi := 2147483656) hl0 rfl rfl rfl ci_b63_0 cj_b63_0 L_0
  exact e2_from hen ha hcall (e2_cutA_ok (e2_fa (fun al st E h hc => EN_0 al st E h hc) e2_fz)) (hC [28]) (X := e2x_229) ex2_229 0 ck_b63_e
/-! b64 X10_nextAt -/
def as_b64 : List ev_V := [(2, 83, 0), (0, 0, 0), (0, 8, 0), (11, 0, 4294967295)]
def E_b64 : e2_E := [(2147483648, 2147583648, 0, 0), (2147483648, 2147483656, 1, 0), (2147483648, 2147483688, 2, 0), (2147483648, 2147483688, 3, 0), (2147483648, 2147483668, 4, 0)]
def bn460 : e2_Q6 := (bn434, bn61)
def bn461 : e2_Q7 := (bn460, bn445)
def bc157 : ev_C := (10, [(0, 0, 0), (2, 88, 0), (2, 115, 0), (2, 114, 0), (2, 86, 0), (2, 112, 0), (1, 2, 4294967296), (2, 118, 0), (2, 120, 0), (2, 131, 0), (2, 91, 0), (1, 4, 4294967296), (2, 123, 0), (11, 2147483648, 2147483649), (11, 2147483648, 2147485248), (2, 87, 0), (2, 84, 0), (2, 122, 0), (2, 100, 0), (2, 132, 0), (11, 2147483648, 2147483668), (11, 2147483648, 2147485248), (1, 0, 4294967296), (11, 0, 4294967295), (11, 2147483648, 2147485248), (2, 93, 0), (2, 104, 0), (11, 2147483648, 2147483678), (2, 89, 0), (2, 92, 0), (2, 119, 0), (2, 90, 0), (2, 94, 0), (2, 103, 0), (1, 3, 4294967296), (11, 0, 4294967295), (11, 0, 4294967295), (11, 2147483648, 2147485249), (11, 2147483648, 2147483653), (11, 2147483648, 2147483668), (2, 85, 0), (11, 2147483648, 2147493647), (5, 0, 0), (2, 95, 0), (2, 96, 0), (2, 97, 0), (2, 98, 0), (2, 99, 0), (2, 101, 0), (2, 102, 0), (2, 105, 0), (2, 106, 0), (2, 107, 0), (2, 108, 0), (2, 109, 0), (2, 110, 0), (2, 111, 0), (11, 2147483648, 2147484768), (11, 2147482048, 2147483655), (11, 2147483648, 2147483738), (11, 2147483648, 2147483678), (11, 0, 4294967295), (11, 0, 4294967295), (11, 0, 4294967295), (11, 0, 4294967295), (11, 0, 4294967295), (2, 113, 0), (2, 116, 0), (2, 117, 0), (2, 121, 0), (11, 0, 4294967295), (11, 0, 4294967295), (2, 124, 0), (2, 125, 0), (11, 0, 4294967295), (2, 126, 0), (2, 127, 0), (2, 128, 0), (2, 129, 0), (2, 130, 0)])
def bn462 : e2_Q1 := (bc157, bc3)
def bn463 : e2_Q2 := (bn197, bn462)
def bn464 : e2_Q3 := (bn463, bn447)
def bn465 : e2_Q4 := (bn196, bn464)
def bn466 : e2_Q5 := (bn465, bn219)
def bn467 : e2_Q6 := (bn466, bn251)
def bn468 : e2_Q7 := (bn389, bn467)
def bn469 : e2_Q8 := (bn461, bn468)
noncomputable def f_b64 : ev_H := (bn469 : e2_Q8)
noncomputable def q_b64_0 : ev_H := (bn469 : e2_Q8)
noncomputable def rs_b64 : e2_Rs := [((12, 9, 2147483647), q_b64_0)]
noncomputable def s_b64 : e2_Sm := (231, as_b64, E_b64, f_b64, rs_b64)
noncomputable def S_b64 : List e2_Sm := []
noncomputable def I_b64 : List e2_In := [(216, 1, e2x_216), (217, 1, e2x_217), (225, 5, e2x_225), (226, 3, e2x_226), (227, 2, e2x_227)]
set_option maxRecDepth 1000000 in
theorem co_b64 : e2_okSB E_b64.length as_b64 f_b64 rs_b64 = true := by decide +kernel
def al_b64_0 : List ev_V := [(2, 83, 0), (0, 0, 0), (0, 8, 0), (11, 0, 4294967295), (1, 5, 4294967296), (9, 0, 0)]
def E_b64_0 : e2_E := [(2147483648, 2147583648, 0, 0), (2147483648, 2147483656, 1, 0), (2147483648, 2147483688, 2, 0), (2147483648, 2147483688, 3, 0), (2147483648, 2147483668, 4, 0), (2147483648, 2147483656, 5, 0)]
noncomputable def h_b64_0 : ev_H := (bn469 : e2_Q8)
noncomputable def cl_b64_e : List (Nat × e2_S) := [(3, e2_cutL (al_b64_0.set 4 (11, 2147483648, 2147483656)) 5 (E_b64_0.take 5) h_b64_0)]
set_option maxRecDepth 1000000 in
theorem ck_b64_e : e2_run (e2_cal S_b64 I_b64 4000 2) (e2_fin rs_b64) e2x_231 (e2_bpL cl_b64_e) (e2_cutA cl_b64_e) 4000 (e2_seek e2x_231 0) (e2_al 6 as_b64) [] E_b64 f_b64 = true := by decide +kernel
noncomputable def cl_b64_0 : List (Nat × e2_S) := [(3, e2_cutL (al_b64_0.set 4 (13, 13, 2147483656)) 5 (E_b64_0.take 5) h_b64_0)]
set_option maxRecDepth 1000000 in
theorem ck_b64_0 : e2_runM (e2_cal S_b64 I_b64 4000 2) (e2_fin rs_b64) e2x_231 (e2_bpL cl_b64_0) (e2_cutA cl_b64_0) 4000 (e2_seek e2x_231 3) al_b64_0 [] E_b64_0 h_b64_0 = true := by decide +kernel
set_option maxRecDepth 1000000 in
theorem ci_b64_0 : e2_idl 5 (al_b64_0.set 4 (9, 0, 0)) = true := by decide +kernel
set_option maxRecDepth 1000000 in
theorem cj_b64_0 : e2_idh 5 8 h_b64_0 = true := by decide +kernel
theorem cs_b64 (hen : en_ok) (l : Launch) : e2_smOk l 3 s_b64 := by
  refine e2_conG (H := 0) (n := 2) (C := evd_231) (S := S_b64) (I := I_b64) (fuel := 4000) hen ei_231 e2_fz (e2_fa ein_216 (e2_fa ein_217 (e2_fa ein_225 (e2_fa ein_226 (e2_fa ein_227 e2_fz))))) (by decide) co_b64 fun M d _ hC hcall p e R s m args below meth c Q D cA A ads r0 ha hl0 => ?_
  have L_0 : e2_gdM M p l e R s m args below meth c Q D cA A ads r0 3 al_b64_0 [] E_b64_0 h_b64_0 := by
    refine e2_indL (u := 5) (j := 4) (lo := 2147483648) (hi := 2147483656) (b := 5) (dd := 0) hl0 (by decide) rfl rfl (Or.inr ⟨rfl, rfl⟩) rfl ci_b64_0 cj_b64_0 ?_
    intro r_0 k_0 hk_0 hp_0 hs_0 hn_0
    have hl_0 : r_0.length ≤ 6 := hs_0.len rfl
    have ha_0 := ha.ext hp_0
    exact e2_fromM hen ha_0 hcall (e2_cutA_ok (e2_fa (fun al st E h hc => hn_0 al st E h hc) e2_fz)) (hC [3]) (X := e2x_231) ex2_231 3 ck_b64_0
  have EN_0 := e2_entL (u := 5) (j := 4) (lo := 2147483648) (hi := 2147483656) hl0 rfl rfl rfl ci_b64_0 cj_b64_0 L_0
  exact e2_from hen ha hcall (e2_cutA_ok (e2_fa (fun al st E h hc => EN_0 al st E h hc) e2_fz)) (hC [3]) (X := e2x_231) ex2_231 0 ck_b64_e
/-! b65 X10_nextAt -/
def as_b65 : List ev_V := [(2, 83, 0), (0, 1, 0), (11, 2147483648, 2147483656), (11, 0, 4294967295)]
def E_b65 : e2_E := [(2147483648, 2147583648, 0, 0), (2147483648, 2147483656, 1, 0), (2147483648, 2147483688, 2, 0), (2147483648, 2147483688, 3, 0), (2147483648, 2147483668, 4, 0)]
def bn470 : e2_Q8 := (bn446, bn468)
noncomputable def f_b65 : ev_H := (bn470 : e2_Q8)
noncomputable def q_b65_0 : ev_H := (bn470 : e2_Q8)
noncomputable def rs_b65 : e2_Rs := [((12, 9, 2147483647), q_b65_0)]
noncomputable def s_b65 : e2_Sm := (231, as_b65, E_b65, f_b65, rs_b65)
noncomputable def S_b65 : List e2_Sm := []
noncomputable def I_b65 : List e2_In := [(215, 2, e2x_215), (216, 1, e2x_216), (217, 1, e2x_217), (225, 5, e2x_225), (226, 3, e2x_226), (227, 2, e2x_227)]
set_option maxRecDepth 1000000 in
theorem co_b65 : e2_okSB E_b65.length as_b65 f_b65 rs_b65 = true := by decide +kernel
def al_b65_0 : List ev_V := [(2, 83, 0), (0, 1, 0), (11, 2147483648, 2147483656), (11, 0, 4294967295), (1, 5, 4294967296), (9, 0, 0)]
def E_b65_0 : e2_E := [(2147483648, 2147583648, 0, 0), (2147483648, 2147483656, 1, 0), (2147483648, 2147483688, 2, 0), (2147483648, 2147483688, 3, 0), (2147483648, 2147483668, 4, 0), (2147483648, 2147483656, 5, 0)]
noncomputable def h_b65_0 : ev_H := (bn470 : e2_Q8)
noncomputable def cl_b65_e : List (Nat × e2_S) := [(3, e2_cutL (al_b65_0.set 4 (11, 2147483648, 2147483656)) 5 (E_b65_0.take 5) h_b65_0)]
set_option maxRecDepth 1000000 in
theorem ck_b65_e : e2_run (e2_cal S_b65 I_b65 4000 2) (e2_fin rs_b65) e2x_231 (e2_bpL cl_b65_e) (e2_cutA cl_b65_e) 4000 (e2_seek e2x_231 0) (e2_al 6 as_b65) [] E_b65 f_b65 = true := by decide +kernel
noncomputable def cl_b65_0 : List (Nat × e2_S) := [(3, e2_cutL (al_b65_0.set 4 (13, 13, 2147483656)) 5 (E_b65_0.take 5) h_b65_0)]
set_option maxRecDepth 1000000 in
theorem ck_b65_0 : e2_runM (e2_cal S_b65 I_b65 4000 2) (e2_fin rs_b65) e2x_231 (e2_bpL cl_b65_0) (e2_cutA cl_b65_0) 4000 (e2_seek e2x_231 3) al_b65_0 [] E_b65_0 h_b65_0 = true := by decide +kernel
set_option maxRecDepth 1000000 in
theorem ci_b65_0 : e2_idl 5 (al_b65_0.set 4 (9, 0, 0)) = true := by decide +kernel
set_option maxRecDepth 1000000 in
theorem cj_b65_0 : e2_idh 5 8 h_b65_0 = true := by decide +kernel
theorem cs_b65 (hen : en_ok) (l : Launch) : e2_smOk l 3 s_b65 := by
  refine e2_conG (H := 0) (n := 2) (C := evd_231) (S := S_b65) (I := I_b65) (fuel := 4000) hen ei_231 e2_fz (e2_fa ein_215 (e2_fa ein_216 (e2_fa ein_217 (e2_fa ein_225 (e2_fa ein_226 (e2_fa ein_227 e2_fz)))))) (by decide) co_b65 fun M d _ hC hcall p e R s m args below meth c Q D cA A ads r0 ha hl0 => ?_
  have L_0 : e2_gdM M p l e R s m args below meth c Q D cA A ads r0 3 al_b65_0 [] E_b65_0 h_b65_0 := by
    refine e2_indL (u := 5) (j := 4) (lo := 2147483648) (hi := 2147483656) (b := 5) (dd := 0) hl0 (by decide) rfl rfl (Or.inr ⟨rfl, rfl⟩) rfl ci_b65_0 cj_b65_0 ?_
    intro r_0 k_0 hk_0 hp_0 hs_0 hn_0
    have hl_0 : r_0.length ≤ 6 := hs_0.len rfl
    have ha_0 := ha.ext hp_0
    exact e2_fromM hen ha_0 hcall (e2_cutA_ok (e2_fa (fun al st E h hc => hn_0 al st E h hc) e2_fz)) (hC [3]) (X := e2x_231) ex2_231 3 ck_b65_0
  have EN_0 := e2_entL (u := 5) (j := 4) (lo := 2147483648) (hi := 2147483656) hl0 rfl rfl rfl ci_b65_0 cj_b65_0 L_0
  exact e2_from hen ha hcall (e2_cutA_ok (e2_fa (fun al st E h hc => EN_0 al st E h hc) e2_fz)) (hC [3]) (X := e2x_231) ex2_231 0 ck_b65_e
/-! b66 X10_nextAt -/
def as_b66 : List ev_V := [(2, 83, 0), (0, 10, 0), (11, 2147483648, 2147483656), (11, 0, 4294967295)]
def E_b66 : e2_E := [(2147483648, 2147583648, 0, 0), (2147483648, 2147483656, 1, 0), (2147483648, 2147483688, 2, 0), (2147483648, 2147483688, 3, 0), (2147483648, 2147483668, 4, 0)]
noncomputable def f_b66 : ev_H := (bn470 : e2_Q8)
noncomputable def q_b66_0 : ev_H := (bn470 : e2_Q8)
noncomputable def rs_b66 : e2_Rs := [((12, 9, 2147483647), q_b66_0)]
noncomputable def s_b66 : e2_Sm := (231, as_b66, E_b66, f_b66, rs_b66)
noncomputable def S_b66 : List e2_Sm := []
noncomputable def I_b66 : List e2_In := [(215, 2, e2x_215), (216, 1, e2x_216), (217, 1, e2x_217), (225, 5, e2x_225), (226, 3, e2x_226), (227, 2, e2x_227)]
set_option maxRecDepth 1000000 in
theorem co_b66 : e2_okSB E_b66.length as_b66 f_b66 rs_b66 = true := by decide +kernel
def al_b66_0 : List ev_V := [(2, 83, 0), (0, 10, 0), (11, 2147483648, 2147483656), (11, 0, 4294967295), (1, 5, 4294967296), (9, 0, 0)]
def E_b66_0 : e2_E := [(2147483648, 2147583648, 0, 0), (2147483648, 2147483656, 1, 0), (2147483648, 2147483688, 2, 0), (2147483648, 2147483688, 3, 0), (2147483648, 2147483668, 4, 0), (2147483648, 2147483656, 5, 0)]
noncomputable def h_b66_0 : ev_H := (bn470 : e2_Q8)
noncomputable def cl_b66_e : List (Nat × e2_S) := [(3, e2_cutL (al_b66_0.set 4 (11, 2147483648, 2147483656)) 5 (E_b66_0.take 5) h_b66_0)]
set_option maxRecDepth 1000000 in
theorem ck_b66_e : e2_run (e2_cal S_b66 I_b66 4000 2) (e2_fin rs_b66) e2x_231 (e2_bpL cl_b66_e) (e2_cutA cl_b66_e) 4000 (e2_seek e2x_231 0) (e2_al 6 as_b66) [] E_b66 f_b66 = true := by decide +kernel
noncomputable def cl_b66_0 : List (Nat × e2_S) := [(3, e2_cutL (al_b66_0.set 4 (13, 13, 2147483656)) 5 (E_b66_0.take 5) h_b66_0)]
set_option maxRecDepth 1000000 in
theorem ck_b66_0 : e2_runM (e2_cal S_b66 I_b66 4000 2) (e2_fin rs_b66) e2x_231 (e2_bpL cl_b66_0) (e2_cutA cl_b66_0) 4000 (e2_seek e2x_231 3) al_b66_0 [] E_b66_0 h_b66_0 = true := by decide +kernel
set_option maxRecDepth 1000000 in
theorem ci_b66_0 : e2_idl 5 (al_b66_0.set 4 (9, 0, 0)) = true := by decide +kernel
set_option maxRecDepth 1000000 in
theorem cj_b66_0 : e2_idh 5 8 h_b66_0 = true := by decide +kernel
theorem cs_b66 (hen : en_ok) (l : Launch) : e2_smOk l 3 s_b66 := by
  refine e2_conG (H := 0) (n := 2) (C := evd_231) (S := S_b66) (I := I_b66) (fuel := 4000) hen ei_231 e2_fz (e2_fa ein_215 (e2_fa ein_216 (e2_fa ein_217 (e2_fa ein_225 (e2_fa ein_226 (e2_fa ein_227 e2_fz)))))) (by decide) co_b66 fun M d _ hC hcall p e R s m args below meth c Q D cA A ads r0 ha hl0 => ?_
  have L_0 : e2_gdM M p l e R s m args below meth c Q D cA A ads r0 3 al_b66_0 [] E_b66_0 h_b66_0 := by
    refine e2_indL (u := 5) (j := 4) (lo := 2147483648) (hi := 2147483656) (b := 5) (dd := 0) hl0 (by decide) rfl rfl (Or.inr ⟨rfl, rfl⟩) rfl ci_b66_0 cj_b66_0 ?_
    intro r_0 k_0 hk_0 hp_0 hs_0 hn_0
    have hl_0 : r_0.length ≤ 6 := hs_0.len rfl
    have ha_0 := ha.ext hp_0
    exact e2_fromM hen ha_0 hcall (e2_cutA_ok (e2_fa (fun al st E h hc => hn_0 al st E h hc) e2_fz)) (hC [3]) (X := e2x_231) ex2_231 3 ck_b66_0
  have EN_0 := e2_entL (u := 5) (j := 4) (lo := 2147483648) (hi := 2147483656) hl0 rfl rfl rfl ci_b66_0 cj_b66_0 L_0
  exact e2_from hen ha hcall (e2_cutA_ok (e2_fa (fun al st E h hc => EN_0 al st E h hc) e2_fz)) (hC [3]) (X := e2x_231) ex2_231 0 ck_b66_e
/-! b67 X10_nextAt -/
def as_b67 : List ev_V := [(2, 83, 0), (0, 11, 0), (11, 2147483648, 2147483656), (11, 0, 4294967295)]
def E_b67 : e2_E := [(2147483648, 2147583648, 0, 0), (2147483648, 2147483656, 1, 0), (2147483648, 2147483688, 2, 0), (2147483648, 2147483688, 3, 0), (2147483648, 2147483668, 4, 0)]
noncomputable def f_b67 : ev_H := (bn470 : e2_Q8)
noncomputable def q_b67_0 : ev_H := (bn470 : e2_Q8)
noncomputable def rs_b67 : e2_Rs := [((12, 9, 2147483647), q_b67_0)]
noncomputable def s_b67 : e2_Sm := (231, as_b67, E_b67, f_b67, rs_b67)
noncomputable def S_b67 : List e2_Sm := []
noncomputable def I_b67 : List e2_In := [(215, 2, e2x_215), (216, 1, e2x_216), (217, 1, e2x_217), (225, 5, e2x_225), (226, 3, e2x_226), (227, 2, e2x_227)]
set_option maxRecDepth 1000000 in
theorem co_b67 : e2_okSB E_b67.length as_b67 f_b67 rs_b67 = true := by decide +kernel
def al_b67_0 : List ev_V := [(2, 83, 0), (0, 11, 0), (11, 2147483648, 2147483656), (11, 0, 4294967295), (1, 5, 4294967296), (9, 0, 0)]
def E_b67_0 : e2_E := [(2147483648, 2147583648, 0, 0), (2147483648, 2147483656, 1, 0), (2147483648, 2147483688, 2, 0), (2147483648, 2147483688, 3, 0), (2147483648, 2147483668, 4, 0), (2147483648, 2147483656, 5, 0)]
noncomputable def h_b67_0 : ev_H := (bn470 : e2_Q8)
noncomputable def cl_b67_e : List (Nat × e2_S) := [(3, e2_cutL (al_b67_0.set 4 (11, 2147483648, 2147483656)) 5 (E_b67_0.take 5) h_b67_0)]
set_option maxRecDepth 1000000 in
theorem ck_b67_e : e2_run (e2_cal S_b67 I_b67 4000 2) (e2_fin rs_b67) e2x_231 (e2_bpL cl_b67_e) (e2_cutA cl_b67_e) 4000 (e2_seek e2x_231 0) (e2_al 6 as_b67) [] E_b67 f_b67 = true := by decide +kernel
noncomputable def cl_b67_0 : List (Nat × e2_S) := [(3, e2_cutL (al_b67_0.set 4 (13, 13, 2147483656)) 5 (E_b67_0.take 5) h_b67_0)]
set_option maxRecDepth 1000000 in
theorem ck_b67_0 : e2_runM (e2_cal S_b67 I_b67 4000 2) (e2_fin rs_b67) e2x_231 (e2_bpL cl_b67_0) (e2_cutA cl_b67_0) 4000 (e2_seek e2x_231 3) al_b67_0 [] E_b67_0 h_b67_0 = true := by decide +kernel
set_option maxRecDepth 1000000 in
theorem ci_b67_0 : e2_idl 5 (al_b67_0.set 4 (9, 0, 0)) = true := by decide +kernel
set_option maxRecDepth 1000000 in
theorem cj_b67_0 : e2_idh 5 8 h_b67_0 = true := by decide +kernel
theorem cs_b67 (hen : en_ok) (l : Launch) : e2_smOk l 3 s_b67 := by
  refine e2_conG (H := 0) (n := 2) (C := evd_231) (S := S_b67) (I := I_b67) (fuel := 4000) hen ei_231 e2_fz (e2_fa ein_215 (e2_fa ein_216 (e2_fa ein_217 (e2_fa ein_225 (e2_fa ein_226 (e2_fa ein_227 e2_fz)))))) (by decide) co_b67 fun M d _ hC hcall p e R s m args below meth c Q D cA A ads r0 ha hl0 => ?_
  have L_0 : e2_gdM M p l e R s m args below meth c Q D cA A ads r0 3 al_b67_0 [] E_b67_0 h_b67_0 := by
    refine e2_indL (u := 5) (j := 4) (lo := 2147483648) (hi := 2147483656) (b := 5) (dd := 0) hl0 (by decide) rfl rfl (Or.inr ⟨rfl, rfl⟩) rfl ci_b67_0 cj_b67_0 ?_
    intro r_0 k_0 hk_0 hp_0 hs_0 hn_0
    have hl_0 : r_0.length ≤ 6 := hs_0.len rfl
    have ha_0 := ha.ext hp_0
    exact e2_fromM hen ha_0 hcall (e2_cutA_ok (e2_fa (fun al st E h hc => hn_0 al st E h hc) e2_fz)) (hC [3]) (X := e2x_231) ex2_231 3 ck_b67_0
  have EN_0 := e2_entL (u := 5) (j := 4) (lo := 2147483648) (hi := 2147483656) hl0 rfl rfl rfl ci_b67_0 cj_b67_0 L_0
  exact e2_from hen ha hcall (e2_cutA_ok (e2_fa (fun al st E h hc => EN_0 al st E h hc) e2_fz)) (hC [3]) (X := e2x_231) ex2_231 0 ck_b67_e
/-! b68 X10_nextAt -/
def as_b68 : List ev_V := [(2, 83, 0), (0, 12, 0), (11, 2147483648, 2147483656), (11, 0, 4294967295)]
def E_b68 : e2_E := [(2147483648, 2147583648, 0, 0), (2147483648, 2147483656, 1, 0), (2147483648, 2147483688, 2, 0), (2147483648, 2147483688, 3, 0), (2147483648, 2147483668, 4, 0)]
noncomputable def f_b68 : ev_H := (bn470 : e2_Q8)
noncomputable def q_b68_0 : ev_H := (bn470 : e2_Q8)
noncomputable def rs_b68 : e2_Rs := [((12, 9, 2147483647), q_b68_0)]
noncomputable def s_b68 : e2_Sm := (231, as_b68, E_b68, f_b68, rs_b68)
noncomputable def S_b68 : List e2_Sm := []
noncomputable def I_b68 : List e2_In := [(215, 2, e2x_215), (216, 1, e2x_216), (217, 1, e2x_217), (225, 5, e2x_225), (226, 3, e2x_226), (227, 2, e2x_227)]
set_option maxRecDepth 1000000 in
theorem co_b68 : e2_okSB E_b68.length as_b68 f_b68 rs_b68 = true := by decide +kernel
def al_b68_0 : List ev_V := [(2, 83, 0), (0, 12, 0), (11, 2147483648, 2147483656), (11, 0, 4294967295), (1, 5, 4294967296), (9, 0, 0)]
def E_b68_0 : e2_E := [(2147483648, 2147583648, 0, 0), (2147483648, 2147483656, 1, 0), (2147483648, 2147483688, 2, 0), (2147483648, 2147483688, 3, 0), (2147483648, 2147483668, 4, 0), (2147483648, 2147483656, 5, 0)]
noncomputable def h_b68_0 : ev_H := (bn470 : e2_Q8)
noncomputable def cl_b68_e : List (Nat × e2_S) := [(3, e2_cutL (al_b68_0.set 4 (11, 2147483648, 2147483656)) 5 (E_b68_0.take 5) h_b68_0)]
set_option maxRecDepth 1000000 in
theorem ck_b68_e : e2_run (e2_cal S_b68 I_b68 4000 2) (e2_fin rs_b68) e2x_231 (e2_bpL cl_b68_e) (e2_cutA cl_b68_e) 4000 (e2_seek e2x_231 0) (e2_al 6 as_b68) [] E_b68 f_b68 = true := by decide +kernel
noncomputable def cl_b68_0 : List (Nat × e2_S) := [(3, e2_cutL (al_b68_0.set 4 (13, 13, 2147483656)) 5 (E_b68_0.take 5) h_b68_0)]
set_option maxRecDepth 1000000 in
theorem ck_b68_0 : e2_runM (e2_cal S_b68 I_b68 4000 2) (e2_fin rs_b68) e2x_231 (e2_bpL cl_b68_0) (e2_cutA cl_b68_0) 4000 (e2_seek e2x_231 3) al_b68_0 [] E_b68_0 h_b68_0 = true := by decide +kernel
set_option maxRecDepth 1000000 in
theorem ci_b68_0 : e2_idl 5 (al_b68_0.set 4 (9, 0, 0)) = true := by decide +kernel
set_option maxRecDepth 1000000 in
theorem cj_b68_0 : e2_idh 5 8 h_b68_0 = true := by decide +kernel
theorem cs_b68 (hen : en_ok) (l : Launch) : e2_smOk l 3 s_b68 := by
  refine e2_conG (H := 0) (n := 2) (C := evd_231) (S := S_b68) (I := I_b68) (fuel := 4000) hen ei_231 e2_fz (e2_fa ein_215 (e2_fa ein_216 (e2_fa ein_217 (e2_fa ein_225 (e2_fa ein_226 (e2_fa ein_227 e2_fz)))))) (by decide) co_b68 fun M d _ hC hcall p e R s m args below meth c Q D cA A ads r0 ha hl0 => ?_
  have L_0 : e2_gdM M p l e R s m args below meth c Q D cA A ads r0 3 al_b68_0 [] E_b68_0 h_b68_0 := by
    refine e2_indL (u := 5) (j := 4) (lo := 2147483648) (hi := 2147483656) (b := 5) (dd := 0) hl0 (by decide) rfl rfl (Or.inr ⟨rfl, rfl⟩) rfl ci_b68_0 cj_b68_0 ?_
    intro r_0 k_0 hk_0 hp_0 hs_0 hn_0
    have hl_0 : r_0.length ≤ 6 := hs_0.len rfl
    have ha_0 := ha.ext hp_0
    exact e2_fromM hen ha_0 hcall (e2_cutA_ok (e2_fa (fun al st E h hc => hn_0 al st E h hc) e2_fz)) (hC [3]) (X := e2x_231) ex2_231 3 ck_b68_0
  have EN_0 := e2_entL (u := 5) (j := 4) (lo := 2147483648) (hi := 2147483656) hl0 rfl rfl rfl ci_b68_0 cj_b68_0 L_0
  exact e2_from hen ha hcall (e2_cutA_ok (e2_fa (fun al st E h hc => EN_0 al st E h hc) e2_fz)) (hC [3]) (X := e2x_231) ex2_231 0 ck_b68_e
/-! b69 X10_nextAt -/
def as_b69 : List ev_V := [(2, 83, 0), (0, 13, 0), (11, 2147483648, 2147483656), (11, 0, 4294967295)]
def E_b69 : e2_E := [(2147483648, 2147583648, 0, 0), (2147483648, 2147483656, 1, 0), (2147483648, 2147483688, 2, 0), (2147483648, 2147483688, 3, 0), (2147483648, 2147483668, 4, 0)]
noncomputable def f_b69 : ev_H := (bn470 : e2_Q8)
noncomputable def q_b69_0 : ev_H := (bn470 : e2_Q8)
noncomputable def rs_b69 : e2_Rs := [((12, 9, 2147483647), q_b69_0)]
noncomputable def s_b69 : e2_Sm := (231, as_b69, E_b69, f_b69, rs_b69)
noncomputable def S_b69 : List e2_Sm := []
noncomputable def I_b69 : List e2_In := [(215, 2, e2x_215), (216, 1, e2x_216), (217, 1, e2x_217), (225, 5, e2x_225), (226, 3, e2x_226), (227, 2, e2x_227)]
set_option maxRecDepth 1000000 in
theorem co_b69 : e2_okSB E_b69.length as_b69 f_b69 rs_b69 = true := by decide +kernel
def al_b69_0 : List ev_V := [(2, 83, 0), (0, 13, 0), (11, 2147483648, 2147483656), (11, 0, 4294967295), (1, 5, 4294967296), (9, 0, 0)]
def E_b69_0 : e2_E := [(2147483648, 2147583648, 0, 0), (2147483648, 2147483656, 1, 0), (2147483648, 2147483688, 2, 0), (2147483648, 2147483688, 3, 0), (2147483648, 2147483668, 4, 0), (2147483648, 2147483656, 5, 0)]
noncomputable def h_b69_0 : ev_H := (bn470 : e2_Q8)
noncomputable def cl_b69_e : List (Nat × e2_S) := [(3, e2_cutL (al_b69_0.set 4 (11, 2147483648, 2147483656)) 5 (E_b69_0.take 5) h_b69_0)]
set_option maxRecDepth 1000000 in
theorem ck_b69_e : e2_run (e2_cal S_b69 I_b69 4000 2) (e2_fin rs_b69) e2x_231 (e2_bpL cl_b69_e) (e2_cutA cl_b69_e) 4000 (e2_seek e2x_231 0) (e2_al 6 as_b69) [] E_b69 f_b69 = true := by decide +kernel
noncomputable def cl_b69_0 : List (Nat × e2_S) := [(3, e2_cutL (al_b69_0.set 4 (13, 13, 2147483656)) 5 (E_b69_0.take 5) h_b69_0)]
set_option maxRecDepth 1000000 in
theorem ck_b69_0 : e2_runM (e2_cal S_b69 I_b69 4000 2) (e2_fin rs_b69) e2x_231 (e2_bpL cl_b69_0) (e2_cutA cl_b69_0) 4000 (e2_seek e2x_231 3) al_b69_0 [] E_b69_0 h_b69_0 = true := by decide +kernel
set_option maxRecDepth 1000000 in
theorem ci_b69_0 : e2_idl 5 (al_b69_0.set 4 (9, 0, 0)) = true := by decide +kernel
set_option maxRecDepth 1000000 in
theorem cj_b69_0 : e2_idh 5 8 h_b69_0 = true := by decide +kernel
theorem cs_b69 (hen : en_ok) (l : Launch) : e2_smOk l 3 s_b69 := by
  refine e2_conG (H := 0) (n := 2) (C := evd_231) (S := S_b69) (I := I_b69) (fuel := 4000) hen ei_231 e2_fz (e2_fa ein_215 (e2_fa ein_216 (e2_fa ein_217 (e2_fa ein_225 (e2_fa ein_226 (e2_fa ein_227 e2_fz)))))) (by decide) co_b69 fun M d _ hC hcall p e R s m args below meth c Q D cA A ads r0 ha hl0 => ?_
  have L_0 : e2_gdM M p l e R s m args below meth c Q D cA A ads r0 3 al_b69_0 [] E_b69_0 h_b69_0 := by
    refine e2_indL (u := 5) (j := 4) (lo := 2147483648) (hi := 2147483656) (b := 5) (dd := 0) hl0 (by decide) rfl rfl (Or.inr ⟨rfl, rfl⟩) rfl ci_b69_0 cj_b69_0 ?_
    intro r_0 k_0 hk_0 hp_0 hs_0 hn_0
    have hl_0 : r_0.length ≤ 6 := hs_0.len rfl
    have ha_0 := ha.ext hp_0
    exact e2_fromM hen ha_0 hcall (e2_cutA_ok (e2_fa (fun al st E h hc => hn_0 al st E h hc) e2_fz)) (hC [3]) (X := e2x_231) ex2_231 3 ck_b69_0
  have EN_0 := e2_entL (u := 5) (j := 4) (lo := 2147483648) (hi := 2147483656) hl0 rfl rfl rfl ci_b69_0 cj_b69_0 L_0
  exact e2_from hen ha hcall (e2_cutA_ok (e2_fa (fun al st E h hc => EN_0 al st E h hc) e2_fz)) (hC [3]) (X := e2x_231) ex2_231 0 ck_b69_e
/-! b70 X10_nextAt -/
def as_b70 : List ev_V := [(2, 83, 0), (0, 14, 0), (11, 2147483648, 2147483656), (11, 0, 4294967295)]
def E_b70 : e2_E := [(2147483648, 2147583648, 0, 0), (2147483648, 2147483656, 1, 0), (2147483648, 2147483688, 2, 0), (2147483648, 2147483688, 3, 0), (2147483648, 2147483668, 4, 0)]
noncomputable def f_b70 : ev_H := (bn470 : e2_Q8)
noncomputable def q_b70_0 : ev_H := (bn470 : e2_Q8)
noncomputable def rs_b70 : e2_Rs := [((12, 9, 2147483647), q_b70_0)]
noncomputable def s_b70 : e2_Sm := (231, as_b70, E_b70, f_b70, rs_b70)
noncomputable def S_b70 : List e2_Sm := []
noncomputable def I_b70 : List e2_In := [(215, 2, e2x_215), (216, 1, e2x_216), (217, 1, e2x_217), (225, 5, e2x_225), (226, 3, e2x_226), (227, 2, e2x_227)]
set_option maxRecDepth 1000000 in
theorem co_b70 : e2_okSB E_b70.length as_b70 f_b70 rs_b70 = true := by decide +kernel
def al_b70_0 : List ev_V := [(2, 83, 0), (0, 14, 0), (11, 2147483648, 2147483656), (11, 0, 4294967295), (1, 5, 4294967296), (9, 0, 0)]
def E_b70_0 : e2_E := [(2147483648, 2147583648, 0, 0), (2147483648, 2147483656, 1, 0), (2147483648, 2147483688, 2, 0), (2147483648, 2147483688, 3, 0), (2147483648, 2147483668, 4, 0), (2147483648, 2147483656, 5, 0)]
noncomputable def h_b70_0 : ev_H := (bn470 : e2_Q8)
noncomputable def cl_b70_e : List (Nat × e2_S) := [(3, e2_cutL (al_b70_0.set 4 (11, 2147483648, 2147483656)) 5 (E_b70_0.take 5) h_b70_0)]
set_option maxRecDepth 1000000 in
theorem ck_b70_e : e2_run (e2_cal S_b70 I_b70 4000 2) (e2_fin rs_b70) e2x_231 (e2_bpL cl_b70_e) (e2_cutA cl_b70_e) 4000 (e2_seek e2x_231 0) (e2_al 6 as_b70) [] E_b70 f_b70 = true := by decide +kernel
noncomputable def cl_b70_0 : List (Nat × e2_S) := [(3, e2_cutL (al_b70_0.set 4 (13, 13, 2147483656)) 5 (E_b70_0.take 5) h_b70_0)]
set_option maxRecDepth 1000000 in
theorem ck_b70_0 : e2_runM (e2_cal S_b70 I_b70 4000 2) (e2_fin rs_b70) e2x_231 (e2_bpL cl_b70_0) (e2_cutA cl_b70_0) 4000 (e2_seek e2x_231 3) al_b70_0 [] E_b70_0 h_b70_0 = true := by decide +kernel
set_option maxRecDepth 1000000 in
theorem ci_b70_0 : e2_idl 5 (al_b70_0.set 4 (9, 0, 0)) = true := by decide +kernel
set_option maxRecDepth 1000000 in
theorem cj_b70_0 : e2_idh 5 8 h_b70_0 = true := by decide +kernel
theorem cs_b70 (hen : en_ok) (l : Launch) : e2_smOk l 3 s_b70 := by
  refine e2_conG (H := 0) (n := 2) (C := evd_231) (S := S_b70) (I := I_b70) (fuel := 4000) hen ei_231 e2_fz (e2_fa ein_215 (e2_fa ein_216 (e2_fa ein_217 (e2_fa ein_225 (e2_fa ein_226 (e2_fa ein_227 e2_fz)))))) (by decide) co_b70 fun M d _ hC hcall p e R s m args below meth c Q D cA A ads r0 ha hl0 => ?_
  have L_0 : e2_gdM M p l e R s m args below meth c Q D cA A ads r0 3 al_b70_0 [] E_b70_0 h_b70_0 := by
    refine e2_indL (u := 5) (j := 4) (lo := 2147483648) (hi := 2147483656) (b := 5) (dd := 0) hl0 (by decide) rfl rfl (Or.inr ⟨rfl, rfl⟩) rfl ci_b70_0 cj_b70_0 ?_
    intro r_0 k_0 hk_0 hp_0 hs_0 hn_0
    have hl_0 : r_0.length ≤ 6 := hs_0.len rfl
    have ha_0 := ha.ext hp_0
    exact e2_fromM hen ha_0 hcall (e2_cutA_ok (e2_fa (fun al st E h hc => hn_0 al st E h hc) e2_fz)) (hC [3]) (X := e2x_231) ex2_231 3 ck_b70_0
  have EN_0 := e2_entL (u := 5) (j := 4) (lo := 2147483648) (hi := 2147483656) hl0 rfl rfl rfl ci_b70_0 cj_b70_0 L_0
  exact e2_from hen ha hcall (e2_cutA_ok (e2_fa (fun al st E h hc => EN_0 al st E h hc) e2_fz)) (hC [3]) (X := e2x_231) ex2_231 0 ck_b70_e
/-! b71 X10_nextAt -/
def as_b71 : List ev_V := [(2, 83, 0), (0, 15, 0), (11, 2147483648, 2147483656), (11, 0, 4294967295)]
def E_b71 : e2_E := [(2147483648, 2147583648, 0, 0), (2147483648, 2147483656, 1, 0), (2147483648, 2147483688, 2, 0), (2147483648, 2147483688, 3, 0), (2147483648, 2147483668, 4, 0)]
noncomputable def f_b71 : ev_H := (bn470 : e2_Q8)
noncomputable def q_b71_0 : ev_H := (bn470 : e2_Q8)
noncomputable def rs_b71 : e2_Rs := [((12, 9, 2147483647), q_b71_0)]
noncomputable def s_b71 : e2_Sm := (231, as_b71, E_b71, f_b71, rs_b71)
noncomputable def S_b71 : List e2_Sm := []
noncomputable def I_b71 : List e2_In := [(215, 2, e2x_215), (216, 1, e2x_216), (217, 1, e2x_217), (225, 5, e2x_225), (226, 3, e2x_226), (227, 2, e2x_227)]
set_option maxRecDepth 1000000 in
theorem co_b71 : e2_okSB E_b71.length as_b71 f_b71 rs_b71 = true := by decide +kernel
def al_b71_0 : List ev_V := [(2, 83, 0), (0, 15, 0), (11, 2147483648, 2147483656), (11, 0, 4294967295), (1, 5, 4294967296), (9, 0, 0)]
def E_b71_0 : e2_E := [(2147483648, 2147583648, 0, 0), (2147483648, 2147483656, 1, 0), (2147483648, 2147483688, 2, 0), (2147483648, 2147483688, 3, 0), (2147483648, 2147483668, 4, 0), (2147483648, 2147483656, 5, 0)]
noncomputable def h_b71_0 : ev_H := (bn470 : e2_Q8)
noncomputable def cl_b71_e : List (Nat × e2_S) := [(3, e2_cutL (al_b71_0.set 4 (11, 2147483648, 2147483656)) 5 (E_b71_0.take 5) h_b71_0)]
set_option maxRecDepth 1000000 in
theorem ck_b71_e : e2_run (e2_cal S_b71 I_b71 4000 2) (e2_fin rs_b71) e2x_231 (e2_bpL cl_b71_e) (e2_cutA cl_b71_e) 4000 (e2_seek e2x_231 0) (e2_al 6 as_b71) [] E_b71 f_b71 = true := by decide +kernel
noncomputable def cl_b71_0 : List (Nat × e2_S) := [(3, e2_cutL (al_b71_0.set 4 (13, 13, 2147483656)) 5 (E_b71_0.take 5) h_b71_0)]
set_option maxRecDepth 1000000 in
theorem ck_b71_0 : e2_runM (e2_cal S_b71 I_b71 4000 2) (e2_fin rs_b71) e2x_231 (e2_bpL cl_b71_0) (e2_cutA cl_b71_0) 4000 (e2_seek e2x_231 3) al_b71_0 [] E_b71_0 h_b71_0 = true := by decide +kernel
set_option maxRecDepth 1000000 in
theorem ci_b71_0 : e2_idl 5 (al_b71_0.set 4 (9, 0, 0)) = true := by decide +kernel
set_option maxRecDepth 1000000 in
theorem cj_b71_0 : e2_idh 5 8 h_b71_0 = true := by decide +kernel
theorem cs_b71 (hen : en_ok) (l : Launch) : e2_smOk l 3 s_b71 := by
  refine e2_conG (H := 0) (n := 2) (C := evd_231) (S := S_b71) (I := I_b71) (fuel := 4000) hen ei_231 e2_fz (e2_fa ein_215 (e2_fa ein_216 (e2_fa ein_217 (e2_fa ein_225 (e2_fa ein_226 (e2_fa ein_227 e2_fz)))))) (by decide) co_b71 fun M d _ hC hcall p e R s m args below meth c Q D cA A ads r0 ha hl0 => ?_
  have L_0 : e2_gdM M p l e R s m args below meth c Q D cA A ads r0 3 al_b71_0 [] E_b71_0 h_b71_0 := by
    refine e2_indL (u := 5) (j := 4) (lo := 2147483648) (hi := 2147483656) (b := 5) (dd := 0) hl0 (by decide) rfl rfl (Or.inr ⟨rfl, rfl⟩) rfl ci_b71_0 cj_b71_0 ?_
    intro r_0 k_0 hk_0 hp_0 hs_0 hn_0
    have hl_0 : r_0.length ≤ 6 := hs_0.len rfl
    have ha_0 := ha.ext hp_0
    exact e2_fromM hen ha_0 hcall (e2_cutA_ok (e2_fa (fun al st E h hc => hn_0 al st E h hc) e2_fz)) (hC [3]) (X := e2x_231) ex2_231 3 ck_b71_0
  have EN_0 := e2_entL (u := 5) (j := 4) (lo := 2147483648) (hi := 2147483656) hl0 rfl rfl rfl ci_b71_0 cj_b71_0 L_0
  exact e2_from hen ha hcall (e2_cutA_ok (e2_fa (fun al st E h hc => EN_0 al st E h hc) e2_fz)) (hC [3]) (X := e2x_231) ex2_231 0 ck_b71_e
/-! b72 X10_nextAt -/
def as_b72 : List ev_V := [(2, 83, 0), (0, 16, 0), (11, 2147483648, 2147483656), (11, 0, 4294967295)]
def E_b72 : e2_E := [(2147483648, 2147583648, 0, 0), (2147483648, 2147483656, 1, 0), (2147483648, 2147483688, 2, 0), (2147483648, 2147483688, 3, 0), (2147483648, 2147483668, 4, 0)]
noncomputable def f_b72 : ev_H := (bn470 : e2_Q8)
noncomputable def q_b72_0 : ev_H := (bn470 : e2_Q8)
noncomputable def rs_b72 : e2_Rs := [((12, 9, 2147483647), q_b72_0)]
noncomputable def s_b72 : e2_Sm := (231, as_b72, E_b72, f_b72, rs_b72)
noncomputable def S_b72 : List e2_Sm := []
noncomputable def I_b72 : List e2_In := [(215, 2, e2x_215), (216, 1, e2x_216), (217, 1, e2x_217), (225, 5, e2x_225), (226, 3, e2x_226), (227, 2, e2x_227)]
set_option maxRecDepth 1000000 in
theorem co_b72 : e2_okSB E_b72.length as_b72 f_b72 rs_b72 = true := by decide +kernel
def al_b72_0 : List ev_V := [(2, 83, 0), (0, 16, 0), (11, 2147483648, 2147483656), (11, 0, 4294967295), (1, 5, 4294967296), (9, 0, 0)]
def E_b72_0 : e2_E := [(2147483648, 2147583648, 0, 0), (2147483648, 2147483656, 1, 0), (2147483648, 2147483688, 2, 0), (2147483648, 2147483688, 3, 0), (2147483648, 2147483668, 4, 0), (2147483648, 2147483656, 5, 0)]
noncomputable def h_b72_0 : ev_H := (bn470 : e2_Q8)
noncomputable def cl_b72_e : List (Nat × e2_S) := [(3, e2_cutL (al_b72_0.set 4 (11, 2147483648, 2147483656)) 5 (E_b72_0.take 5) h_b72_0)]
set_option maxRecDepth 1000000 in
theorem ck_b72_e : e2_run (e2_cal S_b72 I_b72 4000 2) (e2_fin rs_b72) e2x_231 (e2_bpL cl_b72_e) (e2_cutA cl_b72_e) 4000 (e2_seek e2x_231 0) (e2_al 6 as_b72) [] E_b72 f_b72 = true := by decide +kernel
noncomputable def cl_b72_0 : List (Nat × e2_S) := [(3, e2_cutL (al_b72_0.set 4 (13, 13, 2147483656)) 5 (E_b72_0.take 5) h_b72_0)]
set_option maxRecDepth 1000000 in
theorem ck_b72_0 : e2_runM (e2_cal S_b72 I_b72 4000 2) (e2_fin rs_b72) e2x_231 (e2_bpL cl_b72_0) (e2_cutA cl_b72_0) 4000 (e2_seek e2x_231 3) al_b72_0 [] E_b72_0 h_b72_0 = true := by decide +kernel
set_option maxRecDepth 1000000 in
theorem ci_b72_0 : e2_idl 5 (al_b72_0.set 4 (9, 0, 0)) = true := by decide +kernel
set_option maxRecDepth 1000000 in
theorem cj_b72_0 : e2_idh 5 8 h_b72_0 = true := by decide +kernel
theorem cs_b72 (hen : en_ok) (l : Launch) : e2_smOk l 3 s_b72 := by
  refine e2_conG (H := 0) (n := 2) (C := evd_231) (S := S_b72) (I := I_b72) (fuel := 4000) hen ei_231 e2_fz (e2_fa ein_215 (e2_fa ein_216 (e2_fa ein_217 (e2_fa ein_225 (e2_fa ein_226 (e2_fa ein_227 e2_fz)))))) (by decide) co_b72 fun M d _ hC hcall p e R s m args below meth c Q D cA A ads r0 ha hl0 => ?_
  have L_0 : e2_gdM M p l e R s m args below meth c Q D cA A ads r0 3 al_b72_0 [] E_b72_0 h_b72_0 := by
    refine e2_indL (u := 5) (j := 4) (lo := 2147483648) (hi := 2147483656) (b := 5) (dd := 0) hl0 (by decide) rfl rfl (Or.inr ⟨rfl, rfl⟩) rfl ci_b72_0 cj_b72_0 ?_
    intro r_0 k_0 hk_0 hp_0 hs_0 hn_0
    have hl_0 : r_0.length ≤ 6 := hs_0.len rfl
    have ha_0 := ha.ext hp_0
    exact e2_fromM hen ha_0 hcall (e2_cutA_ok (e2_fa (fun al st E h hc => hn_0 al st E h hc) e2_fz)) (hC [3]) (X := e2x_231) ex2_231 3 ck_b72_0
  have EN_0 := e2_entL (u := 5) (j := 4) (lo := 2147483648) (hi := 2147483656) hl0 rfl rfl rfl ci_b72_0 cj_b72_0 L_0
  exact e2_from hen ha hcall (e2_cutA_ok (e2_fa (fun al st E h hc => EN_0 al st E h hc) e2_fz)) (hC [3]) (X := e2x_231) ex2_231 0 ck_b72_e
/-! b73 X10_nextAt -/
def as_b73 : List ev_V := [(2, 83, 0), (0, 17, 0), (11, 2147483648, 2147483656), (11, 0, 4294967295)]
def E_b73 : e2_E := [(2147483648, 2147583648, 0, 0), (2147483648, 2147483656, 1, 0), (2147483648, 2147483688, 2, 0), (2147483648, 2147483688, 3, 0), (2147483648, 2147483668, 4, 0)]
noncomputable def f_b73 : ev_H := (bn470 : e2_Q8)
noncomputable def q_b73_0 : ev_H := (bn470 : e2_Q8)
noncomputable def rs_b73 : e2_Rs := [((12, 9, 2147483647), q_b73_0)]
noncomputable def s_b73 : e2_Sm := (231, as_b73, E_b73, f_b73, rs_b73)
noncomputable def S_b73 : List e2_Sm := []
noncomputable def I_b73 : List e2_In := [(215, 2, e2x_215), (216, 1, e2x_216), (217, 1, e2x_217), (225, 5, e2x_225), (226, 3, e2x_226), (227, 2, e2x_227)]
set_option maxRecDepth 1000000 in
theorem co_b73 : e2_okSB E_b73.length as_b73 f_b73 rs_b73 = true := by decide +kernel
def al_b73_0 : List ev_V := [(2, 83, 0), (0, 17, 0), (11, 2147483648, 2147483656), (11, 0, 4294967295), (1, 5, 4294967296), (9, 0, 0)]
def E_b73_0 : e2_E := [(2147483648, 2147583648, 0, 0), (2147483648, 2147483656, 1, 0), (2147483648, 2147483688, 2, 0), (2147483648, 2147483688, 3, 0), (2147483648, 2147483668, 4, 0), (2147483648, 2147483656, 5, 0)]
noncomputable def h_b73_0 : ev_H := (bn470 : e2_Q8)
noncomputable def cl_b73_e : List (Nat × e2_S) := [(3, e2_cutL (al_b73_0.set 4 (11, 2147483648, 2147483656)) 5 (E_b73_0.take 5) h_b73_0)]
set_option maxRecDepth 1000000 in
theorem ck_b73_e : e2_run (e2_cal S_b73 I_b73 4000 2) (e2_fin rs_b73) e2x_231 (e2_bpL cl_b73_e) (e2_cutA cl_b73_e) 4000 (e2_seek e2x_231 0) (e2_al 6 as_b73) [] E_b73 f_b73 = true := by decide +kernel
noncomputable def cl_b73_0 : List (Nat × e2_S) := [(3, e2_cutL (al_b73_0.set 4 (13, 13, 2147483656)) 5 (E_b73_0.take 5) h_b73_0)]
set_option maxRecDepth 1000000 in
theorem ck_b73_0 : e2_runM (e2_cal S_b73 I_b73 4000 2) (e2_fin rs_b73) e2x_231 (e2_bpL cl_b73_0) (e2_cutA cl_b73_0) 4000 (e2_seek e2x_231 3) al_b73_0 [] E_b73_0 h_b73_0 = true := by decide +kernel
set_option maxRecDepth 1000000 in
theorem ci_b73_0 : e2_idl 5 (al_b73_0.set 4 (9, 0, 0)) = true := by decide +kernel
set_option maxRecDepth 1000000 in
theorem cj_b73_0 : e2_idh 5 8 h_b73_0 = true := by decide +kernel
theorem cs_b73 (hen : en_ok) (l : Launch) : e2_smOk l 3 s_b73 := by
  refine e2_conG (H := 0) (n := 2) (C := evd_231) (S := S_b73) (I := I_b73) (fuel := 4000) hen ei_231 e2_fz (e2_fa ein_215 (e2_fa ein_216 (e2_fa ein_217 (e2_fa ein_225 (e2_fa ein_226 (e2_fa ein_227 e2_fz)))))) (by decide) co_b73 fun M d _ hC hcall p e R s m args below meth c Q D cA A ads r0 ha hl0 => ?_
  have L_0 : e2_gdM M p l e R s m args below meth c Q D cA A ads r0 3 al_b73_0 [] E_b73_0 h_b73_0 := by
    refine e2_indL (u := 5) (j := 4) (lo := 2147483648) (hi := 2147483656) (b := 5) (dd := 0) hl0 (by decide) rfl rfl (Or.inr ⟨rfl, rfl⟩) rfl ci_b73_0 cj_b73_0 ?_
    intro r_0 k_0 hk_0 hp_0 hs_0 hn_0
    have hl_0 : r_0.length ≤ 6 := hs_0.len rfl
    have ha_0 := ha.ext hp_0
    exact e2_fromM hen ha_0 hcall (e2_cutA_ok (e2_fa (fun al st E h hc => hn_0 al st E h hc) e2_fz)) (hC [3]) (X := e2x_231) ex2_231 3 ck_b73_0
  have EN_0 := e2_entL (u := 5) (j := 4) (lo := 2147483648) (hi := 2147483656) hl0 rfl rfl rfl ci_b73_0 cj_b73_0 L_0
  exact e2_from hen ha hcall (e2_cutA_ok (e2_fa (fun al st E h hc => EN_0 al st E h hc) e2_fz)) (hC [3]) (X := e2x_231) ex2_231 0 ck_b73_e
/-! b74 X10_nextAt -/
def as_b74 : List ev_V := [(2, 83, 0), (0, 18, 0), (11, 2147483648, 2147483656), (11, 0, 4294967295)]
def E_b74 : e2_E := [(2147483648, 2147583648, 0, 0), (2147483648, 2147483656, 1, 0), (2147483648, 2147483688, 2, 0), (2147483648, 2147483688, 3, 0), (2147483648, 2147483668, 4, 0)]
noncomputable def f_b74 : ev_H := (bn470 : e2_Q8)
noncomputable def q_b74_0 : ev_H := (bn470 : e2_Q8)
noncomputable def rs_b74 : e2_Rs := [((12, 9, 2147483647), q_b74_0)]
noncomputable def s_b74 : e2_Sm := (231, as_b74, E_b74, f_b74, rs_b74)
noncomputable def S_b74 : List e2_Sm := []
noncomputable def I_b74 : List e2_In := [(215, 2, e2x_215), (216, 1, e2x_216), (217, 1, e2x_217), (225, 5, e2x_225), (226, 3, e2x_226), (227, 2, e2x_227)]
set_option maxRecDepth 1000000 in
theorem co_b74 : e2_okSB E_b74.length as_b74 f_b74 rs_b74 = true := by decide +kernel
def al_b74_0 : List ev_V := [(2, 83, 0), (0, 18, 0), (11, 2147483648, 2147483656), (11, 0, 4294967295), (1, 5, 4294967296), (9, 0, 0)]
def E_b74_0 : e2_E := [(2147483648, 2147583648, 0, 0), (2147483648, 2147483656, 1, 0), (2147483648, 2147483688, 2, 0), (2147483648, 2147483688, 3, 0), (2147483648, 2147483668, 4, 0), (2147483648, 2147483656, 5, 0)]
noncomputable def h_b74_0 : ev_H := (bn470 : e2_Q8)
noncomputable def cl_b74_e : List (Nat × e2_S) := [(3, e2_cutL (al_b74_0.set 4 (11, 2147483648, 2147483656)) 5 (E_b74_0.take 5) h_b74_0)]
set_option maxRecDepth 1000000 in
theorem ck_b74_e : e2_run (e2_cal S_b74 I_b74 4000 2) (e2_fin rs_b74) e2x_231 (e2_bpL cl_b74_e) (e2_cutA cl_b74_e) 4000 (e2_seek e2x_231 0) (e2_al 6 as_b74) [] E_b74 f_b74 = true := by decide +kernel
noncomputable def cl_b74_0 : List (Nat × e2_S) := [(3, e2_cutL (al_b74_0.set 4 (13, 13, 2147483656)) 5 (E_b74_0.take 5) h_b74_0)]
set_option maxRecDepth 1000000 in
theorem ck_b74_0 : e2_runM (e2_cal S_b74 I_b74 4000 2) (e2_fin rs_b74) e2x_231 (e2_bpL cl_b74_0) (e2_cutA cl_b74_0) 4000 (e2_seek e2x_231 3) al_b74_0 [] E_b74_0 h_b74_0 = true := by decide +kernel
set_option maxRecDepth 1000000 in
theorem ci_b74_0 : e2_idl 5 (al_b74_0.set 4 (9, 0, 0)) = true := by decide +kernel
set_option maxRecDepth 1000000 in
theorem cj_b74_0 : e2_idh 5 8 h_b74_0 = true := by decide +kernel
theorem cs_b74 (hen : en_ok) (l : Launch) : e2_smOk l 3 s_b74 := by
  refine e2_conG (H := 0) (n := 2) (C := evd_231) (S := S_b74) (I := I_b74) (fuel := 4000) hen ei_231 e2_fz (e2_fa ein_215 (e2_fa ein_216 (e2_fa ein_217 (e2_fa ein_225 (e2_fa ein_226 (e2_fa ein_227 e2_fz)))))) (by decide) co_b74 fun M d _ hC hcall p e R s m args below meth c Q D cA A ads r0 ha hl0 => ?_
  have L_0 : e2_gdM M p l e R s m args below meth c Q D cA A ads r0 3 al_b74_0 [] E_b74_0 h_b74_0 := by
    refine e2_indL (u := 5) (j := 4) (lo := 2147483648) (hi := 2147483656) (b := 5) (dd := 0) hl0 (by decide) rfl rfl (Or.inr ⟨rfl, rfl⟩) rfl ci_b74_0 cj_b74_0 ?_
    intro r_0 k_0 hk_0 hp_0 hs_0 hn_0
    have hl_0 : r_0.length ≤ 6 := hs_0.len rfl
    have ha_0 := ha.ext hp_0
    exact e2_fromM hen ha_0 hcall (e2_cutA_ok (e2_fa (fun al st E h hc => hn_0 al st E h hc) e2_fz)) (hC [3]) (X := e2x_231) ex2_231 3 ck_b74_0
  have EN_0 := e2_entL (u := 5) (j := 4) (lo := 2147483648) (hi := 2147483656) hl0 rfl rfl rfl ci_b74_0 cj_b74_0 L_0
  exact e2_from hen ha hcall (e2_cutA_ok (e2_fa (fun al st E h hc => EN_0 al st E h hc) e2_fz)) (hC [3]) (X := e2x_231) ex2_231 0 ck_b74_e
/-! b75 X10_nextAt -/
def as_b75 : List ev_V := [(2, 83, 0), (0, 19, 0), (11, 2147483648, 2147483656), (11, 0, 4294967295)]
def E_b75 : e2_E := [(2147483648, 2147583648, 0, 0), (2147483648, 2147483656, 1, 0), (2147483648, 2147483688, 2, 0), (2147483648, 2147483688, 3, 0), (2147483648, 2147483668, 4, 0)]
noncomputable def f_b75 : ev_H := (bn470 : e2_Q8)
noncomputable def q_b75_0 : ev_H := (bn470 : e2_Q8)
noncomputable def rs_b75 : e2_Rs := [((12, 9, 2147483647), q_b75_0)]
noncomputable def s_b75 : e2_Sm := (231, as_b75, E_b75, f_b75, rs_b75)
noncomputable def S_b75 : List e2_Sm := []
noncomputable def I_b75 : List e2_In := [(215, 2, e2x_215), (216, 1, e2x_216), (217, 1, e2x_217), (225, 5, e2x_225), (226, 3, e2x_226), (227, 2, e2x_227)]
set_option maxRecDepth 1000000 in
theorem co_b75 : e2_okSB E_b75.length as_b75 f_b75 rs_b75 = true := by decide +kernel
def al_b75_0 : List ev_V := [(2, 83, 0), (0, 19, 0), (11, 2147483648, 2147483656), (11, 0, 4294967295), (1, 5, 4294967296), (9, 0, 0)]
def E_b75_0 : e2_E := [(2147483648, 2147583648, 0, 0), (2147483648, 2147483656, 1, 0), (2147483648, 2147483688, 2, 0), (2147483648, 2147483688, 3, 0), (2147483648, 2147483668, 4, 0), (2147483648, 2147483656, 5, 0)]
noncomputable def h_b75_0 : ev_H := (bn470 : e2_Q8)
noncomputable def cl_b75_e : List (Nat × e2_S) := [(3, e2_cutL (al_b75_0.set 4 (11, 2147483648, 2147483656)) 5 (E_b75_0.take 5) h_b75_0)]
set_option maxRecDepth 1000000 in
theorem ck_b75_e : e2_run (e2_cal S_b75 I_b75 4000 2) (e2_fin rs_b75) e2x_231 (e2_bpL cl_b75_e) (e2_cutA cl_b75_e) 4000 (e2_seek e2x_231 0) (e2_al 6 as_b75) [] E_b75 f_b75 = true := by decide +kernel
noncomputable def cl_b75_0 : List (Nat × e2_S) := [(3, e2_cutL (al_b75_0.set 4 (13, 13, 2147483656)) 5 (E_b75_0.take 5) h_b75_0)]
set_option maxRecDepth 1000000 in
theorem ck_b75_0 : e2_runM (e2_cal S_b75 I_b75 4000 2) (e2_fin rs_b75) e2x_231 (e2_bpL cl_b75_0) (e2_cutA cl_b75_0) 4000 (e2_seek e2x_231 3) al_b75_0 [] E_b75_0 h_b75_0 = true := by decide +kernel
set_option maxRecDepth 1000000 in
theorem ci_b75_0 : e2_idl 5 (al_b75_0.set 4 (9, 0, 0)) = true := by decide +kernel
set_option maxRecDepth 1000000 in
theorem cj_b75_0 : e2_idh 5 8 h_b75_0 = true := by decide +kernel
theorem cs_b75 (hen : en_ok) (l : Launch) : e2_smOk l 3 s_b75 := by
  refine e2_conG (H := 0) (n := 2) (C := evd_231) (S := S_b75) (I := I_b75) (fuel := 4000) hen ei_231 e2_fz (e2_fa ein_215 (e2_fa ein_216 (e2_fa ein_217 (e2_fa ein_225 (e2_fa ein_226 (e2_fa ein_227 e2_fz)))))) (by decide) co_b75 fun M d _ hC hcall p e R s m args below meth c Q D cA A ads r0 ha hl0 => ?_
  have L_0 : e2_gdM M p l e R s m args below meth c Q D cA A ads r0 3 al_b75_0 [] E_b75_0 h_b75_0 := by
    refine e2_indL (u := 5) (j := 4) (lo := 2147483648) (hi := 2147483656) (b := 5) (dd := 0) hl0 (by decide) rfl rfl (Or.inr ⟨rfl, rfl⟩) rfl ci_b75_0 cj_b75_0 ?_
    intro r_0 k_0 hk_0 hp_0 hs_0 hn_0
    have hl_0 : r_0.length ≤ 6 := hs_0.len rfl
    have ha_0 := ha.ext hp_0
    exact e2_fromM hen ha_0 hcall (e2_cutA_ok (e2_fa (fun al st E h hc => hn_0 al st E h hc) e2_fz)) (hC [3]) (X := e2x_231) ex2_231 3 ck_b75_0
  have EN_0 := e2_entL (u := 5) (j := 4) (lo := 2147483648) (hi := 2147483656) hl0 rfl rfl rfl ci_b75_0 cj_b75_0 L_0
  exact e2_from hen ha hcall (e2_cutA_ok (e2_fa (fun al st E h hc => EN_0 al st E h hc) e2_fz)) (hC [3]) (X := e2x_231) ex2_231 0 ck_b75_e
/-! b76 X10_nextAt -/
def as_b76 : List ev_V := [(2, 83, 0), (0, 2, 0), (11, 2147483648, 2147483656), (11, 0, 4294967295)]
def E_b76 : e2_E := [(2147483648, 2147583648, 0, 0), (2147483648, 2147483656, 1, 0), (2147483648, 2147483688, 2, 0), (2147483648, 2147483688, 3, 0), (2147483648, 2147483668, 4, 0)]
noncomputable def f_b76 : ev_H := (bn470 : e2_Q8)
noncomputable def q_b76_0 : ev_H := (bn470 : e2_Q8)
noncomputable def rs_b76 : e2_Rs := [((12, 9, 2147483647), q_b76_0)]
noncomputable def s_b76 : e2_Sm := (231, as_b76, E_b76, f_b76, rs_b76)
noncomputable def S_b76 : List e2_Sm := []
noncomputable def I_b76 : List e2_In := [(215, 2, e2x_215), (216, 1, e2x_216), (217, 1, e2x_217), (225, 5, e2x_225), (226, 3, e2x_226), (227, 2, e2x_227)]
set_option maxRecDepth 1000000 in
theorem co_b76 : e2_okSB E_b76.length as_b76 f_b76 rs_b76 = true := by decide +kernel
def al_b76_0 : List ev_V := [(2, 83, 0), (0, 2, 0), (11, 2147483648, 2147483656), (11, 0, 4294967295), (1, 5, 4294967296), (9, 0, 0)]
def E_b76_0 : e2_E := [(2147483648, 2147583648, 0, 0), (2147483648, 2147483656, 1, 0), (2147483648, 2147483688, 2, 0), (2147483648, 2147483688, 3, 0), (2147483648, 2147483668, 4, 0), (2147483648, 2147483656, 5, 0)]
noncomputable def h_b76_0 : ev_H := (bn470 : e2_Q8)
noncomputable def cl_b76_e : List (Nat × e2_S) := [(3, e2_cutL (al_b76_0.set 4 (11, 2147483648, 2147483656)) 5 (E_b76_0.take 5) h_b76_0)]
set_option maxRecDepth 1000000 in
theorem ck_b76_e : e2_run (e2_cal S_b76 I_b76 4000 2) (e2_fin rs_b76) e2x_231 (e2_bpL cl_b76_e) (e2_cutA cl_b76_e) 4000 (e2_seek e2x_231 0) (e2_al 6 as_b76) [] E_b76 f_b76 = true := by decide +kernel
noncomputable def cl_b76_0 : List (Nat × e2_S) := [(3, e2_cutL (al_b76_0.set 4 (13, 13, 2147483656)) 5 (E_b76_0.take 5) h_b76_0)]
set_option maxRecDepth 1000000 in
theorem ck_b76_0 : e2_runM (e2_cal S_b76 I_b76 4000 2) (e2_fin rs_b76) e2x_231 (e2_bpL cl_b76_0) (e2_cutA cl_b76_0) 4000 (e2_seek e2x_231 3) al_b76_0 [] E_b76_0 h_b76_0 = true := by decide +kernel
set_option maxRecDepth 1000000 in
theorem ci_b76_0 : e2_idl 5 (al_b76_0.set 4 (9, 0, 0)) = true := by decide +kernel
set_option maxRecDepth 1000000 in
theorem cj_b76_0 : e2_idh 5 8 h_b76_0 = true := by decide +kernel
theorem cs_b76 (hen : en_ok) (l : Launch) : e2_smOk l 3 s_b76 := by
  refine e2_conG (H := 0) (n := 2) (C := evd_231) (S := S_b76) (I := I_b76) (fuel := 4000) hen ei_231 e2_fz (e2_fa ein_215 (e2_fa ein_216 (e2_fa ein_217 (e2_fa ein_225 (e2_fa ein_226 (e2_fa ein_227 e2_fz)))))) (by decide) co_b76 fun M d _ hC hcall p e R s m args below meth c Q D cA A ads r0 ha hl0 => ?_
  have L_0 : e2_gdM M p l e R s m args below meth c Q D cA A ads r0 3 al_b76_0 [] E_b76_0 h_b76_0 := by
    refine e2_indL (u := 5) (j := 4) (lo := 2147483648) (hi := 2147483656) (b := 5) (dd := 0) hl0 (by decide) rfl rfl (Or.inr ⟨rfl, rfl⟩) rfl ci_b76_0 cj_b76_0 ?_
    intro r_0 k_0 hk_0 hp_0 hs_0 hn_0
    have hl_0 : r_0.length ≤ 6 := hs_0.len rfl
    have ha_0 := ha.ext hp_0
    exact e2_fromM hen ha_0 hcall (e2_cutA_ok (e2_fa (fun al st E h hc => hn_0 al st E h hc) e2_fz)) (hC [3]) (X := e2x_231) ex2_231 3 ck_b76_0
  have EN_0 := e2_entL (u := 5) (j := 4) (lo := 2147483648) (hi := 2147483656) hl0 rfl rfl rfl ci_b76_0 cj_b76_0 L_0
  exact e2_from hen ha hcall (e2_cutA_ok (e2_fa (fun al st E h hc => EN_0 al st E h hc) e2_fz)) (hC [3]) (X := e2x_231) ex2_231 0 ck_b76_e
/-! b77 X10_nextAt -/
def as_b77 : List ev_V := [(2, 83, 0), (0, 3, 0), (11, 2147483648, 2147483656), (11, 0, 4294967295)]
def E_b77 : e2_E := [(2147483648, 2147583648, 0, 0), (2147483648, 2147483656, 1, 0), (2147483648, 2147483688, 2, 0), (2147483648, 2147483688, 3, 0), (2147483648, 2147483668, 4, 0)]
noncomputable def f_b77 : ev_H := (bn470 : e2_Q8)
noncomputable def q_b77_0 : ev_H := (bn470 : e2_Q8)
noncomputable def rs_b77 : e2_Rs := [((12, 9, 2147483647), q_b77_0)]
noncomputable def s_b77 : e2_Sm := (231, as_b77, E_b77, f_b77, rs_b77)
noncomputable def S_b77 : List e2_Sm := []
noncomputable def I_b77 : List e2_In := [(215, 2, e2x_215), (216, 1, e2x_216), (217, 1, e2x_217), (225, 5, e2x_225), (226, 3, e2x_226), (227, 2, e2x_227)]
set_option maxRecDepth 1000000 in
theorem co_b77 : e2_okSB E_b77.length as_b77 f_b77 rs_b77 = true := by decide +kernel
def al_b77_0 : List ev_V := [(2, 83, 0), (0, 3, 0), (11, 2147483648, 2147483656), (11, 0, 4294967295), (1, 5, 4294967296), (9, 0, 0)]
def E_b77_0 : e2_E := [(2147483648, 2147583648, 0, 0), (2147483648, 2147483656, 1, 0), (2147483648, 2147483688, 2, 0), (2147483648, 2147483688, 3, 0), (2147483648, 2147483668, 4, 0), (2147483648, 2147483656, 5, 0)]
noncomputable def h_b77_0 : ev_H := (bn470 : e2_Q8)
noncomputable def cl_b77_e : List (Nat × e2_S) := [(3, e2_cutL (al_b77_0.set 4 (11, 2147483648, 2147483656)) 5 (E_b77_0.take 5) h_b77_0)]
set_option maxRecDepth 1000000 in
theorem ck_b77_e : e2_run (e2_cal S_b77 I_b77 4000 2) (e2_fin rs_b77) e2x_231 (e2_bpL cl_b77_e) (e2_cutA cl_b77_e) 4000 (e2_seek e2x_231 0) (e2_al 6 as_b77) [] E_b77 f_b77 = true := by decide +kernel
noncomputable def cl_b77_0 : List (Nat × e2_S) := [(3, e2_cutL (al_b77_0.set 4 (13, 13, 2147483656)) 5 (E_b77_0.take 5) h_b77_0)]
set_option maxRecDepth 1000000 in
theorem ck_b77_0 : e2_runM (e2_cal S_b77 I_b77 4000 2) (e2_fin rs_b77) e2x_231 (e2_bpL cl_b77_0) (e2_cutA cl_b77_0) 4000 (e2_seek e2x_231 3) al_b77_0 [] E_b77_0 h_b77_0 = true := by decide +kernel
set_option maxRecDepth 1000000 in
theorem ci_b77_0 : e2_idl 5 (al_b77_0.set 4 (9, 0, 0)) = true := by decide +kernel
set_option maxRecDepth 1000000 in
theorem cj_b77_0 : e2_idh 5 8 h_b77_0 = true := by decide +kernel
theorem cs_b77 (hen : en_ok) (l : Launch) : e2_smOk l 3 s_b77 := by
  refine e2_conG (H := 0) (n := 2) (C := evd_231) (S := S_b77) (I := I_b77) (fuel := 4000) hen ei_231 e2_fz (e2_fa ein_215 (e2_fa ein_216 (e2_fa ein_217 (e2_fa ein_225 (e2_fa ein_226 (e2_fa ein_227 e2_fz)))))) (by decide) co_b77 fun M d _ hC hcall p e R s m args below meth c Q D cA A ads r0 ha hl0 => ?_
  have L_0 : e2_gdM M p l e R s m args below meth c Q D cA A ads r0 3 al_b77_0 [] E_b77_0 h_b77_0 := by
    refine e2_indL (u := 5) (j := 4) (lo := 2147483648) (hi := 2147483656) (b := 5) (dd := 0) hl0 (by decide) rfl rfl (Or.inr ⟨rfl, rfl⟩) rfl ci_b77_0 cj_b77_0 ?_
    intro r_0 k_0 hk_0 hp_0 hs_0 hn_0
    have hl_0 : r_0.length ≤ 6 := hs_0.len rfl
    have ha_0 := ha.ext hp_0
    exact e2_fromM hen ha_0 hcall (e2_cutA_ok (e2_fa (fun al st E h hc => hn_0 al st E h hc) e2_fz)) (hC [3]) (X := e2x_231) ex2_231 3 ck_b77_0
  have EN_0 := e2_entL (u := 5) (j := 4) (lo := 2147483648) (hi := 2147483656) hl0 rfl rfl rfl ci_b77_0 cj_b77_0 L_0
  exact e2_from hen ha hcall (e2_cutA_ok (e2_fa (fun al st E h hc => EN_0 al st E h hc) e2_fz)) (hC [3]) (X := e2x_231) ex2_231 0 ck_b77_e
/-! b78 X10_nextAt -/
def as_b78 : List ev_V := [(2, 83, 0), (0, 4, 0), (11, 2147483648, 2147483656), (11, 0, 4294967295)]
def E_b78 : e2_E := [(2147483648, 2147583648, 0, 0), (2147483648, 2147483656, 1, 0), (2147483648, 2147483688, 2, 0), (2147483648, 2147483688, 3, 0), (2147483648, 2147483668, 4, 0)]
noncomputable def f_b78 : ev_H := (bn470 : e2_Q8)
noncomputable def q_b78_0 : ev_H := (bn470 : e2_Q8)
noncomputable def rs_b78 : e2_Rs := [((12, 9, 2147483647), q_b78_0)]
noncomputable def s_b78 : e2_Sm := (231, as_b78, E_b78, f_b78, rs_b78)
noncomputable def S_b78 : List e2_Sm := []
noncomputable def I_b78 : List e2_In := [(215, 2, e2x_215), (216, 1, e2x_216), (217, 1, e2x_217), (225, 5, e2x_225), (226, 3, e2x_226), (227, 2, e2x_227)]
set_option maxRecDepth 1000000 in
theorem co_b78 : e2_okSB E_b78.length as_b78 f_b78 rs_b78 = true := by decide +kernel
def al_b78_0 : List ev_V := [(2, 83, 0), (0, 4, 0), (11, 2147483648, 2147483656), (11, 0, 4294967295), (1, 5, 4294967296), (9, 0, 0)]
def E_b78_0 : e2_E := [(2147483648, 2147583648, 0, 0), (2147483648, 2147483656, 1, 0), (2147483648, 2147483688, 2, 0), (2147483648, 2147483688, 3, 0), (2147483648, 2147483668, 4, 0), (2147483648, 2147483656, 5, 0)]
noncomputable def h_b78_0 : ev_H := (bn470 : e2_Q8)
noncomputable def cl_b78_e : List (Nat × e2_S) := [(3, e2_cutL (al_b78_0.set 4 (11, 2147483648, 2147483656)) 5 (E_b78_0.take 5) h_b78_0)]
set_option maxRecDepth 1000000 in
theorem ck_b78_e : e2_run (e2_cal S_b78 I_b78 4000 2) (e2_fin rs_b78) e2x_231 (e2_bpL cl_b78_e) (e2_cutA cl_b78_e) 4000 (e2_seek e2x_231 0) (e2_al 6 as_b78) [] E_b78 f_b78 = true := by decide +kernel
noncomputable def cl_b78_0 : List (Nat × e2_S) := [(3, e2_cutL (al_b78_0.set 4 (13, 13, 2147483656)) 5 (E_b78_0.take 5) h_b78_0)]
set_option maxRecDepth 1000000 in
theorem ck_b78_0 : e2_runM (e2_cal S_b78 I_b78 4000 2) (e2_fin rs_b78) e2x_231 (e2_bpL cl_b78_0) (e2_cutA cl_b78_0) 4000 (e2_seek e2x_231 3) al_b78_0 [] E_b78_0 h_b78_0 = true := by decide +kernel
set_option maxRecDepth 1000000 in
theorem ci_b78_0 : e2_idl 5 (al_b78_0.set 4 (9, 0, 0)) = true := by decide +kernel
set_option maxRecDepth 1000000 in
theorem cj_b78_0 : e2_idh 5 8 h_b78_0 = true := by decide +kernel
theorem cs_b78 (hen : en_ok) (l : Launch) : e2_smOk l 3 s_b78 := by
  refine e2_conG (H := 0) (n := 2) (C := evd_231) (S := S_b78) (I := I_b78) (fuel := 4000) hen ei_231 e2_fz (e2_fa ein_215 (e2_fa ein_216 (e2_fa ein_217 (e2_fa ein_225 (e2_fa ein_226 (e2_fa ein_227 e2_fz)))))) (by decide) co_b78 fun M d _ hC hcall p e R s m args below meth c Q D cA A ads r0 ha hl0 => ?_
  have L_0 : e2_gdM M p l e R s m args below meth c Q D cA A ads r0 3 al_b78_0 [] E_b78_0 h_b78_0 := by
    refine e2_indL (u := 5) (j := 4) (lo := 2147483648) (hi := 2147483656) (b := 5) (dd := 0) hl0 (by decide) rfl rfl (Or.inr ⟨rfl, rfl⟩) rfl ci_b78_0 cj_b78_0 ?_
    intro r_0 k_0 hk_0 hp_0 hs_0 hn_0
    have hl_0 : r_0.length ≤ 6 := hs_0.len rfl
    have ha_0 := ha.ext hp_0
    exact e2_fromM hen ha_0 hcall (e2_cutA_ok (e2_fa (fun al st E h hc => hn_0 al st E h hc) e2_fz)) (hC [3]) (X := e2x_231) ex2_231 3 ck_b78_0
  have EN_0 := e2_entL (u := 5) (j := 4) (lo := 2147483648) (hi := 2147483656) hl0 rfl rfl rfl ci_b78_0 cj_b78_0 L_0
  exact e2_from hen ha hcall (e2_cutA_ok (e2_fa (fun al st E h hc => EN_0 al st E h hc) e2_fz)) (hC [3]) (X := e2x_231) ex2_231 0 ck_b78_e
/-! b79 X10_nextAt -/
def as_b79 : List ev_V := [(2, 83, 0), (0, 5, 0), (11, 2147483648, 2147483656), (11, 0, 4294967295)]
def E_b79 : e2_E := [(2147483648, 2147583648, 0, 0), (2147483648, 2147483656, 1, 0), (2147483648, 2147483688, 2, 0), (2147483648, 2147483688, 3, 0), (2147483648, 2147483668, 4, 0)]
noncomputable def f_b79 : ev_H := (bn470 : e2_Q8)
noncomputable def q_b79_0 : ev_H := (bn470 : e2_Q8)
noncomputable def rs_b79 : e2_Rs := [((12, 9, 2147483647), q_b79_0)]
noncomputable def s_b79 : e2_Sm := (231, as_b79, E_b79, f_b79, rs_b79)
noncomputable def S_b79 : List e2_Sm := []
noncomputable def I_b79 : List e2_In := [(215, 2, e2x_215), (216, 1, e2x_216), (217, 1, e2x_217), (225, 5, e2x_225), (226, 3, e2x_226), (227, 2, e2x_227)]
set_option maxRecDepth 1000000 in
theorem co_b79 : e2_okSB E_b79.length as_b79 f_b79 rs_b79 = true := by decide +kernel
def al_b79_0 : List ev_V := [(2, 83, 0), (0, 5, 0), (11, 2147483648, 2147483656), (11, 0, 4294967295), (1, 5, 4294967296), (9, 0, 0)]
def E_b79_0 : e2_E := [(2147483648, 2147583648, 0, 0), (2147483648, 2147483656, 1, 0), (2147483648, 2147483688, 2, 0), (2147483648, 2147483688, 3, 0), (2147483648, 2147483668, 4, 0), (2147483648, 2147483656, 5, 0)]
noncomputable def h_b79_0 : ev_H := (bn470 : e2_Q8)
noncomputable def cl_b79_e : List (Nat × e2_S) := [(3, e2_cutL (al_b79_0.set 4 (11, 2147483648, 2147483656)) 5 (E_b79_0.take 5) h_b79_0)]
set_option maxRecDepth 1000000 in
theorem ck_b79_e : e2_run (e2_cal S_b79 I_b79 4000 2) (e2_fin rs_b79) e2x_231 (e2_bpL cl_b79_e) (e2_cutA cl_b79_e) 4000 (e2_seek e2x_231 0) (e2_al 6 as_b79) [] E_b79 f_b79 = true := by decide +kernel
noncomputable def cl_b79_0 : List (Nat × e2_S) := [(3, e2_cutL (al_b79_0.set 4 (13, 13, 2147483656)) 5 (E_b79_0.take 5) h_b79_0)]
set_option maxRecDepth 1000000 in
theorem ck_b79_0 : e2_runM (e2_cal S_b79 I_b79 4000 2) (e2_fin rs_b79) e2x_231 (e2_bpL cl_b79_0) (e2_cutA cl_b79_0) 4000 (e2_seek e2x_231 3) al_b79_0 [] E_b79_0 h_b79_0 = true := by decide +kernel
set_option maxRecDepth 1000000 in
theorem ci_b79_0 : e2_idl 5 (al_b79_0.set 4 (9, 0, 0)) = true := by decide +kernel
set_option maxRecDepth 1000000 in
theorem cj_b79_0 : e2_idh 5 8 h_b79_0 = true := by decide +kernel
theorem cs_b79 (hen : en_ok) (l : Launch) : e2_smOk l 3 s_b79 := by
  refine e2_conG (H := 0) (n := 2) (C := evd_231) (S := S_b79) (I := I_b79) (fuel := 4000) hen ei_231 e2_fz (e2_fa ein_215 (e2_fa ein_216 (e2_fa ein_217 (e2_fa ein_225 (e2_fa ein_226 (e2_fa ein_227 e2_fz)))))) (by decide) co_b79 fun M d _ hC hcall p e R s m args below meth c Q D cA A ads r0 ha hl0 => ?_
  have L_0 : e2_gdM M p l e R s m args below meth c Q D cA A ads r0 3 al_b79_0 [] E_b79_0 h_b79_0 := by
    refine e2_indL (u := 5) (j := 4) (lo := 2147483648) (hi := 2147483656) (b := 5) (dd := 0) hl0 (by decide) rfl rfl (Or.inr ⟨rfl, rfl⟩) rfl ci_b79_0 cj_b79_0 ?_
    intro r_0 k_0 hk_0 hp_0 hs_0 hn_0
    have hl_0 : r_0.length ≤ 6 := hs_0.len rfl
    have ha_0 := ha.ext hp_0
    exact e2_fromM hen ha_0 hcall (e2_cutA_ok (e2_fa (fun al st E h hc => hn_0 al st E h hc) e2_fz)) (hC [3]) (X := e2x_231) ex2_231 3 ck_b79_0
  have EN_0 := e2_entL (u := 5) (j := 4) (lo := 2147483648) (hi := 2147483656) hl0 rfl rfl rfl ci_b79_0 cj_b79_0 L_0
  exact e2_from hen ha hcall (e2_cutA_ok (e2_fa (fun al st E h hc => EN_0 al st E h hc) e2_fz)) (hC [3]) (X := e2x_231) ex2_231 0 ck_b79_e
/-! b80 X10_nextAt -/
def as_b80 : List ev_V := [(2, 83, 0), (0, 6, 0), (11, 2147483648, 2147483656), (11, 0, 4294967295)]
def E_b80 : e2_E := [(2147483648, 2147583648, 0, 0), (2147483648, 2147483656, 1, 0), (2147483648, 2147483688, 2, 0), (2147483648, 2147483688, 3, 0), (2147483648, 2147483668, 4, 0)]
noncomputable def f_b80 : ev_H := (bn470 : e2_Q8)
noncomputable def q_b80_0 : ev_H := (bn470 : e2_Q8)
noncomputable def rs_b80 : e2_Rs := [((12, 9, 2147483647), q_b80_0)]
noncomputable def s_b80 : e2_Sm := (231, as_b80, E_b80, f_b80, rs_b80)
noncomputable def S_b80 : List e2_Sm := []
noncomputable def I_b80 : List e2_In := [(215, 2, e2x_215), (216, 1, e2x_216), (217, 1, e2x_217), (225, 5, e2x_225), (226, 3, e2x_226), (227, 2, e2x_227)]
set_option maxRecDepth 1000000 in
theorem co_b80 : e2_okSB E_b80.length as_b80 f_b80 rs_b80 = true := by decide +kernel
def al_b80_0 : List ev_V := [(2, 83, 0), (0, 6, 0), (11, 2147483648, 2147483656), (11, 0, 4294967295), (1, 5, 4294967296), (9, 0, 0)]
def E_b80_0 : e2_E := [(2147483648, 2147583648, 0, 0), (2147483648, 2147483656, 1, 0), (2147483648, 2147483688, 2, 0), (2147483648, 2147483688, 3, 0), (2147483648, 2147483668, 4, 0), (2147483648, 2147483656, 5, 0)]
noncomputable def h_b80_0 : ev_H := (bn470 : e2_Q8)
noncomputable def cl_b80_e : List (Nat × e2_S) := [(3, e2_cutL (al_b80_0.set 4 (11, 2147483648, 2147483656)) 5 (E_b80_0.take 5) h_b80_0)]
set_option maxRecDepth 1000000 in
theorem ck_b80_e : e2_run (e2_cal S_b80 I_b80 4000 2) (e2_fin rs_b80) e2x_231 (e2_bpL cl_b80_e) (e2_cutA cl_b80_e) 4000 (e2_seek e2x_231 0) (e2_al 6 as_b80) [] E_b80 f_b80 = true := by decide +kernel
noncomputable def cl_b80_0 : List (Nat × e2_S) := [(3, e2_cutL (al_b80_0.set 4 (13, 13, 2147483656)) 5 (E_b80_0.take 5) h_b80_0)]
set_option maxRecDepth 1000000 in
theorem ck_b80_0 : e2_runM (e2_cal S_b80 I_b80 4000 2) (e2_fin rs_b80) e2x_231 (e2_bpL cl_b80_0) (e2_cutA cl_b80_0) 4000 (e2_seek e2x_231 3) al_b80_0 [] E_b80_0 h_b80_0 = true := by decide +kernel
set_option maxRecDepth 1000000 in
theorem ci_b80_0 : e2_idl 5 (al_b80_0.set 4 (9, 0, 0)) = true := by decide +kernel
set_option maxRecDepth 1000000 in
theorem cj_b80_0 : e2_idh 5 8 h_b80_0 = true := by decide +kernel
theorem cs_b80 (hen : en_ok) (l : Launch) : e2_smOk l 3 s_b80 := by
  refine e2_conG (H := 0) (n := 2) (C := evd_231) (S := S_b80) (I := I_b80) (fuel := 4000) hen ei_231 e2_fz (e2_fa ein_215 (e2_fa ein_216 (e2_fa ein_217 (e2_fa ein_225 (e2_fa ein_226 (e2_fa ein_227 e2_fz)))))) (by decide) co_b80 fun M d _ hC hcall p e R s m args below meth c Q D cA A ads r0 ha hl0 => ?_
  have L_0 : e2_gdM M p l e R s m args below meth c Q D cA A ads r0 3 al_b80_0 [] E_b80_0 h_b80_0 := by
    refine e2_indL (u := 5) (j := 4) (lo := 2147483648) (hi := 2147483656) (b := 5) (dd := 0) hl0 (by decide) rfl rfl (Or.inr ⟨rfl, rfl⟩) rfl ci_b80_0 cj_b80_0 ?_
    intro r_0 k_0 hk_0 hp_0 hs_0 hn_0
    have hl_0 : r_0.length ≤ 6 := hs_0.len rfl
    have ha_0 := ha.ext hp_0
    exact e2_fromM hen ha_0 hcall (e2_cutA_ok (e2_fa (fun al st E h hc => hn_0 al st E h hc) e2_fz)) (hC [3]) (X := e2x_231) ex2_231 3 ck_b80_0
  have EN_0 := e2_entL (u := 5) (j := 4) (lo := 2147483648) (hi := 2147483656) hl0 rfl rfl rfl ci_b80_0 cj_b80_0 L_0
  exact e2_from hen ha hcall (e2_cutA_ok (e2_fa (fun al st E h hc => EN_0 al st E h hc) e2_fz)) (hC [3]) (X := e2x_231) ex2_231 0 ck_b80_e
/-! b81 X10_nextAt -/
def as_b81 : List ev_V := [(2, 83, 0), (0, 7, 0), (11, 2147483648, 2147483656), (11, 0, 4294967295)]
def E_b81 : e2_E := [(2147483648, 2147583648, 0, 0), (2147483648, 2147483656, 1, 0), (2147483648, 2147483688, 2, 0), (2147483648, 2147483688, 3, 0), (2147483648, 2147483668, 4, 0)]
noncomputable def f_b81 : ev_H := (bn470 : e2_Q8)
noncomputable def q_b81_0 : ev_H := (bn470 : e2_Q8)
noncomputable def rs_b81 : e2_Rs := [((12, 9, 2147483647), q_b81_0)]
noncomputable def s_b81 : e2_Sm := (231, as_b81, E_b81, f_b81, rs_b81)
noncomputable def S_b81 : List e2_Sm := []
noncomputable def I_b81 : List e2_In := [(215, 2, e2x_215), (216, 1, e2x_216), (217, 1, e2x_217), (225, 5, e2x_225), (226, 3, e2x_226), (227, 2, e2x_227)]
set_option maxRecDepth 1000000 in
theorem co_b81 : e2_okSB E_b81.length as_b81 f_b81 rs_b81 = true := by decide +kernel
def al_b81_0 : List ev_V := [(2, 83, 0), (0, 7, 0), (11, 2147483648, 2147483656), (11, 0, 4294967295), (1, 5, 4294967296), (9, 0, 0)]
def E_b81_0 : e2_E := [(2147483648, 2147583648, 0, 0), (2147483648, 2147483656, 1, 0), (2147483648, 2147483688, 2, 0), (2147483648, 2147483688, 3, 0), (2147483648, 2147483668, 4, 0), (2147483648, 2147483656, 5, 0)]
noncomputable def h_b81_0 : ev_H := (bn470 : e2_Q8)
noncomputable def cl_b81_e : List (Nat × e2_S) := [(3, e2_cutL (al_b81_0.set 4 (11, 2147483648, 2147483656)) 5 (E_b81_0.take 5) h_b81_0)]
set_option maxRecDepth 1000000 in
theorem ck_b81_e : e2_run (e2_cal S_b81 I_b81 4000 2) (e2_fin rs_b81) e2x_231 (e2_bpL cl_b81_e) (e2_cutA cl_b81_e) 4000 (e2_seek e2x_231 0) (e2_al 6 as_b81) [] E_b81 f_b81 = true := by decide +kernel
noncomputable def cl_b81_0 : List (Nat × e2_S) := [(3, e2_cutL (al_b81_0.set 4 (13, 13, 2147483656)) 5 (E_b81_0.take 5) h_b81_0)]
set_option maxRecDepth 1000000 in
theorem ck_b81_0 : e2_runM (e2_cal S_b81 I_b81 4000 2) (e2_fin rs_b81) e2x_231 (e2_bpL cl_b81_0) (e2_cutA cl_b81_0) 4000 (e2_seek e2x_231 3) al_b81_0 [] E_b81_0 h_b81_0 = true := by decide +kernel
set_option maxRecDepth 1000000 in
theorem ci_b81_0 : e2_idl 5 (al_b81_0.set 4 (9, 0, 0)) = true := by decide +kernel
set_option maxRecDepth 1000000 in
theorem cj_b81_0 : e2_idh 5 8 h_b81_0 = true := by decide +kernel
theorem cs_b81 (hen : en_ok) (l : Launch) : e2_smOk l 3 s_b81 := by
  refine e2_conG (H := 0) (n := 2) (C := evd_231) (S := S_b81) (I := I_b81) (fuel := 4000) hen ei_231 e2_fz (e2_fa ein_215 (e2_fa ein_216 (e2_fa ein_217 (e2_fa ein_225 (e2_fa ein_226 (e2_fa ein_227 e2_fz)))))) (by decide) co_b81 fun M d _ hC hcall p e R s m args below meth c Q D cA A ads r0 ha hl0 => ?_
  have L_0 : e2_gdM M p l e R s m args below meth c Q D cA A ads r0 3 al_b81_0 [] E_b81_0 h_b81_0 := by
    refine e2_indL (u := 5) (j := 4) (lo := 2147483648) (hi := 2147483656) (b := 5) (dd := 0) hl0 (by decide) rfl rfl (Or.inr ⟨rfl, rfl⟩) rfl ci_b81_0 cj_b81_0 ?_
    intro r_0 k_0 hk_0 hp_0 hs_0 hn_0
    have hl_0 : r_0.length ≤ 6 := hs_0.len rfl
    have ha_0 := ha.ext hp_0
    exact e2_fromM hen ha_0 hcall (e2_cutA_ok (e2_fa (fun al st E h hc => hn_0 al st E h hc) e2_fz)) (hC [3]) (X := e2x_231) ex2_231 3 ck_b81_0
  have EN_0 := e2_entL (u := 5) (j := 4) (lo := 2147483648) (hi := 2147483656) hl0 rfl rfl rfl ci_b81_0 cj_b81_0 L_0
  exact e2_from hen ha hcall (e2_cutA_ok (e2_fa (fun al st E h hc => EN_0 al st E h hc) e2_fz)) (hC [3]) (X := e2x_231) ex2_231 0 ck_b81_e
/-! b82 X10_nextAt -/
def as_b82 : List ev_V := [(2, 83, 0), (0, 8, 0), (11, 2147483648, 2147483656), (11, 0, 4294967295)]
def E_b82 : e2_E := [(2147483648, 2147583648, 0, 0), (2147483648, 2147483656, 1, 0), (2147483648, 2147483688, 2, 0), (2147483648, 2147483688, 3, 0), (2147483648, 2147483668, 4, 0)]
noncomputable def f_b82 : ev_H := (bn470 : e2_Q8)
noncomputable def q_b82_0 : ev_H := (bn470 : e2_Q8)
noncomputable def rs_b82 : e2_Rs := [((12, 9, 2147483647), q_b82_0)]
noncomputable def s_b82 : e2_Sm := (231, as_b82, E_b82, f_b82, rs_b82)
noncomputable def S_b82 : List e2_Sm := []
noncomputable def I_b82 : List e2_In := [(215, 2, e2x_215), (216, 1, e2x_216), (217, 1, e2x_217), (225, 5, e2x_225), (226, 3, e2x_226), (227, 2, e2x_227)]
set_option maxRecDepth 1000000 in
theorem co_b82 : e2_okSB E_b82.length as_b82 f_b82 rs_b82 = true := by decide +kernel
def al_b82_0 : List ev_V := [(2, 83, 0), (0, 8, 0), (11, 2147483648, 2147483656), (11, 0, 4294967295), (1, 5, 4294967296), (9, 0, 0)]
def E_b82_0 : e2_E := [(2147483648, 2147583648, 0, 0), (2147483648, 2147483656, 1, 0), (2147483648, 2147483688, 2, 0), (2147483648, 2147483688, 3, 0), (2147483648, 2147483668, 4, 0), (2147483648, 2147483656, 5, 0)]
noncomputable def h_b82_0 : ev_H := (bn470 : e2_Q8)
noncomputable def cl_b82_e : List (Nat × e2_S) := [(3, e2_cutL (al_b82_0.set 4 (11, 2147483648, 2147483656)) 5 (E_b82_0.take 5) h_b82_0)]
set_option maxRecDepth 1000000 in
theorem ck_b82_e : e2_run (e2_cal S_b82 I_b82 4000 2) (e2_fin rs_b82) e2x_231 (e2_bpL cl_b82_e) (e2_cutA cl_b82_e) 4000 (e2_seek e2x_231 0) (e2_al 6 as_b82) [] E_b82 f_b82 = true := by decide +kernel
noncomputable def cl_b82_0 : List (Nat × e2_S) := [(3, e2_cutL (al_b82_0.set 4 (13, 13, 2147483656)) 5 (E_b82_0.take 5) h_b82_0)]
set_option maxRecDepth 1000000 in
theorem ck_b82_0 : e2_runM (e2_cal S_b82 I_b82 4000 2) (e2_fin rs_b82) e2x_231 (e2_bpL cl_b82_0) (e2_cutA cl_b82_0) 4000 (e2_seek e2x_231 3) al_b82_0 [] E_b82_0 h_b82_0 = true := by decide +kernel
set_option maxRecDepth 1000000 in
theorem ci_b82_0 : e2_idl 5 (al_b82_0.set 4 (9, 0, 0)) = true := by decide +kernel
set_option maxRecDepth 1000000 in
theorem cj_b82_0 : e2_idh 5 8 h_b82_0 = true := by decide +kernel
theorem cs_b82 (hen : en_ok) (l : Launch) : e2_smOk l 3 s_b82 := by
  refine e2_conG (H := 0) (n := 2) (C := evd_231) (S := S_b82) (I := I_b82) (fuel := 4000) hen ei_231 e2_fz (e2_fa ein_215 (e2_fa ein_216 (e2_fa ein_217 (e2_fa ein_225 (e2_fa ein_226 (e2_fa ein_227 e2_fz)))))) (by decide) co_b82 fun M d _ hC hcall p e R s m args below meth c Q D cA A ads r0 ha hl0 => ?_
  have L_0 : e2_gdM M p l e R s m args below meth c Q D cA A ads r0 3 al_b82_0 [] E_b82_0 h_b82_0 := by
    refine e2_indL (u := 5) (j := 4) (lo := 2147483648) (hi := 2147483656) (b := 5) (dd := 0) hl0 (by decide) rfl rfl (Or.inr ⟨rfl, rfl⟩) rfl ci_b82_0 cj_b82_0 ?_
    intro r_0 k_0 hk_0 hp_0 hs_0 hn_0
    have hl_0 : r_0.length ≤ 6 := hs_0.len rfl
    have ha_0 := ha.ext hp_0
    exact e2_fromM hen ha_0 hcall (e2_cutA_ok (e2_fa (fun al st E h hc => hn_0 al st E h hc) e2_fz)) (hC [3]) (X := e2x_231) ex2_231 3 ck_b82_0
  have EN_0 := e2_entL (u := 5) (j := 4) (lo := 2147483648) (hi := 2147483656) hl0 rfl rfl rfl ci_b82_0 cj_b82_0 L_0
  exact e2_from hen ha hcall (e2_cutA_ok (e2_fa (fun al st E h hc => EN_0 al st E h hc) e2_fz)) (hC [3]) (X := e2x_231) ex2_231 0 ck_b82_e
/-! b83 X10_nextAt -/
def as_b83 : List ev_V := [(2, 83, 0), (0, 9, 0), (11, 2147483648, 2147483656), (11, 0, 4294967295)]
def E_b83 : e2_E := [(2147483648, 2147583648, 0, 0), (2147483648, 2147483656, 1, 0), (2147483648, 2147483688, 2, 0), (2147483648, 2147483688, 3, 0), (2147483648, 2147483668, 4, 0)]
noncomputable def f_b83 : ev_H := (bn470 : e2_Q8)
noncomputable def q_b83_0 : ev_H := (bn470 : e2_Q8)
noncomputable def rs_b83 : e2_Rs := [((12, 9, 2147483647), q_b83_0)]
noncomputable def s_b83 : e2_Sm := (231, as_b83, E_b83, f_b83, rs_b83)
noncomputable def S_b83 : List e2_Sm := []
noncomputable def I_b83 : List e2_In := [(215, 2, e2x_215), (216, 1, e2x_216), (217, 1, e2x_217), (225, 5, e2x_225), (226, 3, e2x_226), (227, 2, e2x_227)]
set_option maxRecDepth 1000000 in
theorem co_b83 : e2_okSB E_b83.length as_b83 f_b83 rs_b83 = true := by decide +kernel
def al_b83_0 : List ev_V := [(2, 83, 0), (0, 9, 0), (11, 2147483648, 2147483656), (11, 0, 4294967295), (1, 5, 4294967296), (9, 0, 0)]
def E_b83_0 : e2_E := [(2147483648, 2147583648, 0, 0), (2147483648, 2147483656, 1, 0), (2147483648, 2147483688, 2, 0), (2147483648, 2147483688, 3, 0), (2147483648, 2147483668, 4, 0), (2147483648, 2147483656, 5, 0)]
noncomputable def h_b83_0 : ev_H := (bn470 : e2_Q8)
noncomputable def cl_b83_e : List (Nat × e2_S) := [(3, e2_cutL (al_b83_0.set 4 (11, 2147483648, 2147483656)) 5 (E_b83_0.take 5) h_b83_0)]
set_option maxRecDepth 1000000 in
theorem ck_b83_e : e2_run (e2_cal S_b83 I_b83 4000 2) (e2_fin rs_b83) e2x_231 (e2_bpL cl_b83_e) (e2_cutA cl_b83_e) 4000 (e2_seek e2x_231 0) (e2_al 6 as_b83) [] E_b83 f_b83 = true := by decide +kernel
noncomputable def cl_b83_0 : List (Nat × e2_S) := [(3, e2_cutL (al_b83_0.set 4 (13, 13, 2147483656)) 5 (E_b83_0.take 5) h_b83_0)]
set_option maxRecDepth 1000000 in
theorem ck_b83_0 : e2_runM (e2_cal S_b83 I_b83 4000 2) (e2_fin rs_b83) e2x_231 (e2_bpL cl_b83_0) (e2_cutA cl_b83_0) 4000 (e2_seek e2x_231 3) al_b83_0 [] E_b83_0 h_b83_0 = true := by decide +kernel
set_option maxRecDepth 1000000 in
theorem ci_b83_0 : e2_idl 5 (al_b83_0.set 4 (9, 0, 0)) = true := by decide +kernel
set_option maxRecDepth 1000000 in
theorem cj_b83_0 : e2_idh 5 8 h_b83_0 = true := by decide +kernel
theorem cs_b83 (hen : en_ok) (l : Launch) : e2_smOk l 3 s_b83 := by
  refine e2_conG (H := 0) (n := 2) (C := evd_231) (S := S_b83) (I := I_b83) (fuel := 4000) hen ei_231 e2_fz (e2_fa ein_215 (e2_fa ein_216 (e2_fa ein_217 (e2_fa ein_225 (e2_fa ein_226 (e2_fa ein_227 e2_fz)))))) (by decide) co_b83 fun M d _ hC hcall p e R s m args below meth c Q D cA A ads r0 ha hl0 => ?_
  have L_0 : e2_gdM M p l e R s m args below meth c Q D cA A ads r0 3 al_b83_0 [] E_b83_0 h_b83_0 := by
    refine e2_indL (u := 5) (j := 4) (lo := 2147483648) (hi := 2147483656) (b := 5) (dd := 0) hl0 (by decide) rfl rfl (Or.inr ⟨rfl, rfl⟩) rfl ci_b83_0 cj_b83_0 ?_
    intro r_0 k_0 hk_0 hp_0 hs_0 hn_0
    have hl_0 : r_0.length ≤ 6 := hs_0.len rfl
    have ha_0 := ha.ext hp_0
    exact e2_fromM hen ha_0 hcall (e2_cutA_ok (e2_fa (fun al st E h hc => hn_0 al st E h hc) e2_fz)) (hC [3]) (X := e2x_231) ex2_231 3 ck_b83_0
  have EN_0 := e2_entL (u := 5) (j := 4) (lo := 2147483648) (hi := 2147483656) hl0 rfl rfl rfl ci_b83_0 cj_b83_0 L_0
  exact e2_from hen ha hcall (e2_cutA_ok (e2_fa (fun al st E h hc => EN_0 al st E h hc) e2_fz)) (hC [3]) (X := e2x_231) ex2_231 0 ck_b83_e
/-! b84 X10_read -/
def as_b84 : List ev_V := [(2, 83, 0), (11, 0, 4294967295)]
def E_b84 : e2_E := [(2147483648, 2147583648, 0, 0), (2147483648, 2147483648, 1, 0), (2147483648, 2147483688, 2, 0), (2147483648, 2147483688, 3, 0)]
def bc158 : ev_C := (54, [(0, 20, 0), (11, 2147483648, 2147483655)])
def bn471 : e2_Q1 := (bc158, bc3)
def bn472 : e2_Q2 := (bn41, bn471)
def bn473 : e2_Q3 := (bn40, bn472)
def bn474 : e2_Q4 := (bn436, bn473)
def bn475 : e2_Q5 := (bn474, bn60)
def bn476 : e2_Q6 := (bn434, bn475)
def bn477 : e2_Q7 := (bn476, bn445)
def bc159 : ev_C := (50, [(11, 2147483648, 2147483654), (11, 2147483648, 2147483654), (11, 2147483648, 2147483654), (11, 2147483648, 2147483654), (11, 2147483648, 2147483654), (11, 2147483648, 2147483654), (11, 2147483648, 2147483654), (11, 2147483648, 2147483654), (11, 2147483648, 2147483654), (11, 2147483648, 2147483654), (11, 2147483648, 2147483654), (11, 2147483648, 2147483654), (11, 2147483648, 2147483654), (11, 2147483648, 2147483654), (11, 2147483648, 2147483654), (11, 2147483648, 2147483654)])
def bn478 : e2_Q1 := (bc159, bc3)
def bn479 : e2_Q2 := (bn130, bn478)
def bn480 : e2_Q3 := (bn129, bn479)
def bn481 : e2_Q4 := (bn480, bn386)
def bn482 : e2_Q5 := (bn481, bn156)
def bc160 : ev_C := (54, [(0, 20, 0), (11, 2147483648, 2147483667)])
def bn483 : e2_Q1 := (bc160, bc3)
def bn484 : e2_Q2 := (bn168, bn483)
def bn485 : e2_Q3 := (bn167, bn484)
def bn486 : e2_Q4 := (bn164, bn485)
def bn487 : e2_Q5 := (bn486, bn187)
def bn488 : e2_Q6 := (bn482, bn487)
def bn489 : e2_Q7 := (bn488, bn451)
def bn490 : e2_Q8 := (bn477, bn489)
noncomputable def f_b84 : ev_H := (bn490 : e2_Q8)
def bc161 : ev_C := (10, [(0, 0, 0), (2, 88, 0), (2, 115, 0), (2, 114, 0), (2, 86, 0), (2, 112, 0), (1, 2, 4294967296), (2, 118, 0), (2, 120, 0), (2, 131, 0), (2, 91, 0), (0, 0, 0), (2, 123, 0), (11, 2147483648, 2147483649), (11, 2147483648, 2147485248), (2, 87, 0), (2, 84, 0), (2, 122, 0), (2, 100, 0), (2, 132, 0), (11, 2147483648, 2147483668), (11, 2147483648, 2147485248), (1, 0, 4294967296), (11, 0, 4294967295), (11, 2147483648, 2147485248), (2, 93, 0), (2, 104, 0), (11, 2147483648, 2147483678), (2, 89, 0), (2, 92, 0), (2, 119, 0), (2, 90, 0), (2, 94, 0), (2, 103, 0), (1, 3, 4294967296), (11, 0, 4294967295), (11, 0, 4294967295), (11, 2147483648, 2147485249), (11, 2147483648, 2147483653), (11, 2147483648, 2147483668), (2, 85, 0), (11, 2147483648, 2147493647), (5, 0, 0), (2, 95, 0), (2, 96, 0), (2, 97, 0), (2, 98, 0), (2, 99, 0), (2, 101, 0), (2, 102, 0), (2, 105, 0), (2, 106, 0), (2, 107, 0), (2, 108, 0), (2, 109, 0), (2, 110, 0), (2, 111, 0), (11, 2147483648, 2147484768), (11, 2147482048, 2147483655), (11, 2147483648, 2147483738), (11, 2147483648, 2147483678), (11, 0, 4294967295), (11, 0, 4294967295), (11, 0, 4294967295), (11, 0, 4294967295), (11, 0, 4294967295), (2, 113, 0), (2, 116, 0), (2, 117, 0), (2, 121, 0), (11, 0, 4294967295), (11, 0, 4294967295), (2, 124, 0), (2, 125, 0), (11, 0, 4294967295), (2, 126, 0), (2, 127, 0), (2, 128, 0), (2, 129, 0), (2, 130, 0)])
def bn491 : e2_Q1 := (bc161, bc3)
def bn492 : e2_Q2 := (bn197, bn491)
def bn493 : e2_Q3 := (bn492, bn447)
def bn494 : e2_Q4 := (bn196, bn493)
def bn495 : e2_Q5 := (bn494, bn219)
def bn496 : e2_Q6 := (bn495, bn251)
def bn497 : e2_Q7 := (bn488, bn496)
def bn498 : e2_Q8 := (bn477, bn497)
noncomputable def q_b84_0 : ev_H := (bn498 : e2_Q8)
noncomputable def rs_b84 : e2_Rs := [((11, 2147483647, 2147483648), q_b84_0)]
noncomputable def s_b84 : e2_Sm := (230, as_b84, E_b84, f_b84, rs_b84)
noncomputable def S_b84 : List e2_Sm := [s_b24, s_b25, s_b26, s_b27, s_b28, s_b29, s_b30, s_b31, s_b32, s_b33, s_b34, s_b35, s_b36, s_b37, s_b38, s_b39, s_b40, s_b41, s_b42, s_b43]
noncomputable def I_b84 : List e2_In := [(216, 1, e2x_216), (217, 1, e2x_217), (227, 2, e2x_227)]
noncomputable def Eb_b64 : e2_E := [(2147483648, 2147583648, 0, 0), (2147483648, 2147483656, 1, 0), (2147483648, 2147483688, 2, 0), (2147483648, 2147483688, 3, 0)]
set_option maxRecDepth 1000000 in
theorem cog_b64 : e2_okGB 4 83 11 as_b64 f_b64 rs_b64 = true := by decide +kernel
noncomputable def Eb_b65 : e2_E := [(2147483648, 2147583648, 0, 0), (2147483648, 2147483656, 1, 0), (2147483648, 2147483688, 2, 0), (2147483648, 2147483688, 3, 0)]
set_option maxRecDepth 1000000 in
theorem cog_b65 : e2_okGB 4 83 11 as_b65 f_b65 rs_b65 = true := by decide +kernel
noncomputable def Eb_b66 : e2_E := [(2147483648, 2147583648, 0, 0), (2147483648, 2147483656, 1, 0), (2147483648, 2147483688, 2, 0), (2147483648, 2147483688, 3, 0)]
set_option maxRecDepth 1000000 in
theorem cog_b66 : e2_okGB 4 83 11 as_b66 f_b66 rs_b66 = true := by decide +kernel
noncomputable def Eb_b67 : e2_E := [(2147483648, 2147583648, 0, 0), (2147483648, 2147483656, 1, 0), (2147483648, 2147483688, 2, 0), (2147483648, 2147483688, 3, 0)]
set_option maxRecDepth 1000000 in
theorem cog_b67 : e2_okGB 4 83 11 as_b67 f_b67 rs_b67 = true := by decide +kernel
noncomputable def Eb_b68 : e2_E := [(2147483648, 2147583648, 0, 0), (2147483648, 2147483656, 1, 0), (2147483648, 2147483688, 2, 0), (2147483648, 2147483688, 3, 0)]
set_option maxRecDepth 1000000 in
theorem cog_b68 : e2_okGB 4 83 11 as_b68 f_b68 rs_b68 = true := by decide +kernel
noncomputable def Eb_b69 : e2_E := [(2147483648, 2147583648, 0, 0), (2147483648, 2147483656, 1, 0), (2147483648, 2147483688, 2, 0), (2147483648, 2147483688, 3, 0)]
set_option maxRecDepth 1000000 in
theorem cog_b69 : e2_okGB 4 83 11 as_b69 f_b69 rs_b69 = true := by decide +kernel
noncomputable def Eb_b70 : e2_E := [(2147483648, 2147583648, 0, 0), (2147483648, 2147483656, 1, 0), (2147483648, 2147483688, 2, 0), (2147483648, 2147483688, 3, 0)]
set_option maxRecDepth 1000000 in
theorem cog_b70 : e2_okGB 4 83 11 as_b70 f_b70 rs_b70 = true := by decide +kernel
noncomputable def Eb_b71 : e2_E := [(2147483648, 2147583648, 0, 0), (2147483648, 2147483656, 1, 0), (2147483648, 2147483688, 2, 0), (2147483648, 2147483688, 3, 0)]
set_option maxRecDepth 1000000 in
theorem cog_b71 : e2_okGB 4 83 11 as_b71 f_b71 rs_b71 = true := by decide +kernel
noncomputable def Eb_b72 : e2_E := [(2147483648, 2147583648, 0, 0), (2147483648, 2147483656, 1, 0), (2147483648, 2147483688, 2, 0), (2147483648, 2147483688, 3, 0)]
set_option maxRecDepth 1000000 in
theorem cog_b72 : e2_okGB 4 83 11 as_b72 f_b72 rs_b72 = true := by decide +kernel
noncomputable def Eb_b73 : e2_E := [(2147483648, 2147583648, 0, 0), (2147483648, 2147483656, 1, 0), (2147483648, 2147483688, 2, 0), (2147483648, 2147483688, 3, 0)]
set_option maxRecDepth 1000000 in
theorem cog_b73 : e2_okGB 4 83 11 as_b73 f_b73 rs_b73 = true := by decide +kernel
noncomputable def Eb_b74 : e2_E := [(2147483648, 2147583648, 0, 0), (2147483648, 2147483656, 1, 0), (2147483648, 2147483688, 2, 0), (2147483648, 2147483688, 3, 0)]
set_option maxRecDepth 1000000 in
theorem cog_b74 : e2_okGB 4 83 11 as_b74 f_b74 rs_b74 = true := by decide +kernel
noncomputable def Eb_b75 : e2_E := [(2147483648, 2147583648, 0, 0), (2147483648, 2147483656, 1, 0), (2147483648, 2147483688, 2, 0), (2147483648, 2147483688, 3, 0)]
set_option maxRecDepth 1000000 in
theorem cog_b75 : e2_okGB 4 83 11 as_b75 f_b75 rs_b75 = true := by decide +kernel
noncomputable def Eb_b76 : e2_E := [(2147483648, 2147583648, 0, 0), (2147483648, 2147483656, 1, 0), (2147483648, 2147483688, 2, 0), (2147483648, 2147483688, 3, 0)]
set_option maxRecDepth 1000000 in
theorem cog_b76 : e2_okGB 4 83 11 as_b76 f_b76 rs_b76 = true := by decide +kernel
noncomputable def Eb_b77 : e2_E := [(2147483648, 2147583648, 0, 0), (2147483648, 2147483656, 1, 0), (2147483648, 2147483688, 2, 0), (2147483648, 2147483688, 3, 0)]
set_option maxRecDepth 1000000 in
theorem cog_b77 : e2_okGB 4 83 11 as_b77 f_b77 rs_b77 = true := by decide +kernel
noncomputable def Eb_b78 : e2_E := [(2147483648, 2147583648, 0, 0), (2147483648, 2147483656, 1, 0), (2147483648, 2147483688, 2, 0), (2147483648, 2147483688, 3, 0)]
set_option maxRecDepth 1000000 in
theorem cog_b78 : e2_okGB 4 83 11 as_b78 f_b78 rs_b78 = true := by decide +kernel
noncomputable def Eb_b79 : e2_E := [(2147483648, 2147583648, 0, 0), (2147483648, 2147483656, 1, 0), (2147483648, 2147483688, 2, 0), (2147483648, 2147483688, 3, 0)]
set_option maxRecDepth 1000000 in
theorem cog_b79 : e2_okGB 4 83 11 as_b79 f_b79 rs_b79 = true := by decide +kernel
noncomputable def Eb_b80 : e2_E := [(2147483648, 2147583648, 0, 0), (2147483648, 2147483656, 1, 0), (2147483648, 2147483688, 2, 0), (2147483648, 2147483688, 3, 0)]
set_option maxRecDepth 1000000 in
theorem cog_b80 : e2_okGB 4 83 11 as_b80 f_b80 rs_b80 = true := by decide +kernel
noncomputable def Eb_b81 : e2_E := [(2147483648, 2147583648, 0, 0), (2147483648, 2147483656, 1, 0), (2147483648, 2147483688, 2, 0), (2147483648, 2147483688, 3, 0)]
set_option maxRecDepth 1000000 in
theorem cog_b81 : e2_okGB 4 83 11 as_b81 f_b81 rs_b81 = true := by decide +kernel
noncomputable def Eb_b82 : e2_E := [(2147483648, 2147583648, 0, 0), (2147483648, 2147483656, 1, 0), (2147483648, 2147483688, 2, 0), (2147483648, 2147483688, 3, 0)]
set_option maxRecDepth 1000000 in
theorem cog_b82 : e2_okGB 4 83 11 as_b82 f_b82 rs_b82 = true := by decide +kernel
noncomputable def Eb_b83 : e2_E := [(2147483648, 2147583648, 0, 0), (2147483648, 2147483656, 1, 0), (2147483648, 2147483688, 2, 0), (2147483648, 2147483688, 3, 0)]
set_option maxRecDepth 1000000 in
theorem cog_b83 : e2_okGB 4 83 11 as_b83 f_b83 rs_b83 = true := by decide +kernel
set_option maxRecDepth 1000000 in
theorem co_b84 : e2_okSB E_b84.length as_b84 f_b84 rs_b84 = true := by decide +kernel
def al_b84_21 : List ev_V := [(2, 83, 0), (11, 0, 4294967295), (1, 4, 4294967296), (9, 0, 0), (9, 0, 0)]
def E_b84_21 : e2_E := [(2147483648, 2147583648, 0, 0), (2147483648, 2147483648, 1, 0), (2147483648, 2147483688, 2, 0), (2147483648, 2147483688, 3, 0), (2147483648, 2147483657, 4, 0)]
noncomputable def h_b84_21 : ev_H := (bn490 : e2_Q8)
def al_b84_22 : List ev_V := [(2, 83, 0), (11, 0, 4294967295), (1, 4, 4294967296), (9, 0, 0), (9, 0, 0)]
def E_b84_22 : e2_E := [(2147483648, 2147583648, 0, 0), (2147483648, 2147483648, 1, 0), (2147483648, 2147483688, 2, 0), (2147483648, 2147483688, 3, 0), (2147483647, 2147483667, 4, 0)]
noncomputable def h_b84_22 : ev_H := (bn490 : e2_Q8)
def al_b84_23 : List ev_V := [(2, 83, 0), (11, 0, 4294967295), (1, 4, 4294967296), (1, 5, 4294967296), (9, 0, 0)]
def E_b84_23 : e2_E := [(2147483648, 2147583648, 0, 0), (2147483648, 2147483648, 1, 0), (2147483648, 2147483688, 2, 0), (2147483648, 2147483688, 3, 0), (2147483648, 2147483667, 4, 0), (2147483648, 2147483657, 5, 0)]
noncomputable def h_b84_23 : ev_H := (bn490 : e2_Q8)
noncomputable def h_b84_0 : ev_H := (bn498 : e2_Q8)
noncomputable def h_b84_1 : ev_H := (bn498 : e2_Q8)
noncomputable def h_b84_2 : ev_H := (bn498 : e2_Q8)
noncomputable def h_b84_3 : ev_H := (bn498 : e2_Q8)
noncomputable def h_b84_4 : ev_H := (bn498 : e2_Q8)
noncomputable def h_b84_5 : ev_H := (bn498 : e2_Q8)
noncomputable def h_b84_6 : ev_H := (bn498 : e2_Q8)
noncomputable def h_b84_7 : ev_H := (bn498 : e2_Q8)
noncomputable def h_b84_8 : ev_H := (bn498 : e2_Q8)
noncomputable def h_b84_9 : ev_H := (bn498 : e2_Q8)
noncomputable def h_b84_10 : ev_H := (bn498 : e2_Q8)
noncomputable def h_b84_11 : ev_H := (bn498 : e2_Q8)
noncomputable def h_b84_12 : ev_H := (bn498 : e2_Q8)
noncomputable def h_b84_13 : ev_H := (bn498 : e2_Q8)
noncomputable def h_b84_14 : ev_H := (bn498 : e2_Q8)
noncomputable def h_b84_15 : ev_H := (bn498 : e2_Q8)
noncomputable def h_b84_16 : ev_H := (bn498 : e2_Q8)
noncomputable def h_b84_17 : ev_H := (bn498 : e2_Q8)
noncomputable def h_b84_18 : ev_H := (bn498 : e2_Q8)
noncomputable def h_b84_19 : ev_H := (bn498 : e2_Q8)
noncomputable def h_b84_20 : ev_H := (bn498 : e2_Q8)
noncomputable def cu_b84_120 : List e2_Cu := [([(2, 83, 0), (11, 0, 4294967295), (0, 0, 0), (0, 8, 0), (9, 0, 0)], [(2147483648, 2147583648, 0, 0), (2147483648, 2147483648, 1, 0), (2147483648, 2147483688, 2, 0), (2147483648, 2147483688, 3, 0)], h_b84_0),
  ([(2, 83, 0), (11, 0, 4294967295), (0, 1, 0), (0, 8, 0), (0, 4294967295, 0)], [(2147483648, 2147583648, 0, 0), (2147483648, 2147483648, 1, 0), (2147483648, 2147483688, 2, 0), (2147483648, 2147483688, 3, 0)], h_b84_1),
  ([(2, 83, 0), (11, 0, 4294967295), (0, 2, 0), (0, 8, 0), (0, 4294967295, 0)], [(2147483648, 2147583648, 0, 0), (2147483648, 2147483648, 1, 0), (2147483648, 2147483688, 2, 0), (2147483648, 2147483688, 3, 0)], h_b84_2),
  ([(2, 83, 0), (11, 0, 4294967295), (0, 3, 0), (0, 8, 0), (0, 4294967295, 0)], [(2147483648, 2147583648, 0, 0), (2147483648, 2147483648, 1, 0), (2147483648, 2147483688, 2, 0), (2147483648, 2147483688, 3, 0)], h_b84_3),
  ([(2, 83, 0), (11, 0, 4294967295), (0, 4, 0), (0, 8, 0), (0, 4294967295, 0)], [(2147483648, 2147583648, 0, 0), (2147483648, 2147483648, 1, 0), (2147483648, 2147483688, 2, 0), (2147483648, 2147483688, 3, 0)], h_b84_4),
  ([(2, 83, 0), (11, 0, 4294967295), (0, 5, 0), (0, 8, 0), (0, 4294967295, 0)], [(2147483648, 2147583648, 0, 0), (2147483648, 2147483648, 1, 0), (2147483648, 2147483688, 2, 0), (2147483648, 2147483688, 3, 0)], h_b84_5),
  ([(2, 83, 0), (11, 0, 4294967295), (0, 6, 0), (0, 8, 0), (0, 4294967295, 0)], [(2147483648, 2147583648, 0, 0), (2147483648, 2147483648, 1, 0), (2147483648, 2147483688, 2, 0), (2147483648, 2147483688, 3, 0)], h_b84_6),
  ([(2, 83, 0), (11, 0, 4294967295), (0, 7, 0), (0, 8, 0), (0, 4294967295, 0)], [(2147483648, 2147583648, 0, 0), (2147483648, 2147483648, 1, 0), (2147483648, 2147483688, 2, 0), (2147483648, 2147483688, 3, 0)], h_b84_7),
  ([(2, 83, 0), (11, 0, 4294967295), (0, 8, 0), (0, 8, 0), (0, 4294967295, 0)], [(2147483648, 2147583648, 0, 0), (2147483648, 2147483648, 1, 0), (2147483648, 2147483688, 2, 0), (2147483648, 2147483688, 3, 0)], h_b84_8),
  ([(2, 83, 0), (11, 0, 4294967295), (0, 9, 0), (0, 8, 0), (0, 4294967295, 0)], [(2147483648, 2147583648, 0, 0), (2147483648, 2147483648, 1, 0), (2147483648, 2147483688, 2, 0), (2147483648, 2147483688, 3, 0)], h_b84_9),
  ([(2, 83, 0), (11, 0, 4294967295), (0, 10, 0), (0, 8, 0), (0, 4294967295, 0)], [(2147483648, 2147583648, 0, 0), (2147483648, 2147483648, 1, 0), (2147483648, 2147483688, 2, 0), (2147483648, 2147483688, 3, 0)], h_b84_10),
  ([(2, 83, 0), (11, 0, 4294967295), (0, 11, 0), (0, 8, 0), (0, 4294967295, 0)], [(2147483648, 2147583648, 0, 0), (2147483648, 2147483648, 1, 0), (2147483648, 2147483688, 2, 0), (2147483648, 2147483688, 3, 0)], h_b84_11),
  ([(2, 83, 0), (11, 0, 4294967295), (0, 12, 0), (0, 8, 0), (0, 4294967295, 0)], [(2147483648, 2147583648, 0, 0), (2147483648, 2147483648, 1, 0), (2147483648, 2147483688, 2, 0), (2147483648, 2147483688, 3, 0)], h_b84_12),
  ([(2, 83, 0), (11, 0, 4294967295), (0, 13, 0), (0, 8, 0), (0, 4294967295, 0)], [(2147483648, 2147583648, 0, 0), (2147483648, 2147483648, 1, 0), (2147483648, 2147483688, 2, 0), (2147483648, 2147483688, 3, 0)], h_b84_13),
  ([(2, 83, 0), (11, 0, 4294967295), (0, 14, 0), (0, 8, 0), (0, 4294967295, 0)], [(2147483648, 2147583648, 0, 0), (2147483648, 2147483648, 1, 0), (2147483648, 2147483688, 2, 0), (2147483648, 2147483688, 3, 0)], h_b84_14),
  ([(2, 83, 0), (11, 0, 4294967295), (0, 15, 0), (0, 8, 0), (0, 4294967295, 0)], [(2147483648, 2147583648, 0, 0), (2147483648, 2147483648, 1, 0), (2147483648, 2147483688, 2, 0), (2147483648, 2147483688, 3, 0)], h_b84_15),
  ([(2, 83, 0), (11, 0, 4294967295), (0, 16, 0), (0, 8, 0), (0, 4294967295, 0)], [(2147483648, 2147583648, 0, 0), (2147483648, 2147483648, 1, 0), (2147483648, 2147483688, 2, 0), (2147483648, 2147483688, 3, 0)], h_b84_16),
  ([(2, 83, 0), (11, 0, 4294967295), (0, 17, 0), (0, 8, 0), (0, 4294967295, 0)], [(2147483648, 2147583648, 0, 0), (2147483648, 2147483648, 1, 0), (2147483648, 2147483688, 2, 0), (2147483648, 2147483688, 3, 0)], h_b84_17),
  ([(2, 83, 0), (11, 0, 4294967295), (0, 18, 0), (0, 8, 0), (0, 4294967295, 0)], [(2147483648, 2147583648, 0, 0), (2147483648, 2147483648, 1, 0), (2147483648, 2147483688, 2, 0), (2147483648, 2147483688, 3, 0)], h_b84_18),
  ([(2, 83, 0), (11, 0, 4294967295), (0, 19, 0), (0, 8, 0), (0, 4294967295, 0)], [(2147483648, 2147583648, 0, 0), (2147483648, 2147483648, 1, 0), (2147483648, 2147483688, 2, 0), (2147483648, 2147483688, 3, 0)], h_b84_19),
  ([(2, 83, 0), (11, 0, 4294967295), (0, 20, 0), (0, 8, 0), (0, 4294967295, 0)], [(2147483648, 2147583648, 0, 0), (2147483648, 2147483648, 1, 0), (2147483648, 2147483688, 2, 0), (2147483648, 2147483688, 3, 0)], h_b84_20)]
noncomputable def cl_b84_e : List (Nat × e2_S) := [(2, e2_cutL (al_b84_21.set 2 (11, 2147483648, 2147483657)) 4 (E_b84_21.take 4) h_b84_21)]
set_option maxRecDepth 1000000 in
theorem ck_b84_e : e2_run (e2_orG 231 83 11 4 2147483648 2147483668 as_b83 Eb_b83 f_b83 rs_b83 (e2_orG 231 83 11 4 2147483648 2147483668 as_b82 Eb_b82 f_b82 rs_b82 (e2_orG 231 83 11 4 2147483648 2147483668 as_b81 Eb_b81 f_b81 rs_b81 (e2_orG 231 83 11 4 2147483648 2147483668 as_b80 Eb_b80 f_b80 rs_b80 (e2_orG 231 83 11 4 2147483648 2147483668 as_b79 Eb_b79 f_b79 rs_b79 (e2_orG 231 83 11 4 2147483648 2147483668 as_b78 Eb_b78 f_b78 rs_b78 (e2_orG 231 83 11 4 2147483648 2147483668 as_b77 Eb_b77 f_b77 rs_b77 (e2_orG 231 83 11 4 2147483648 2147483668 as_b76 Eb_b76 f_b76 rs_b76 (e2_orG 231 83 11 4 2147483648 2147483668 as_b75 Eb_b75 f_b75 rs_b75 (e2_orG 231 83 11 4 2147483648 2147483668 as_b74 Eb_b74 f_b74 rs_b74 (e2_orG 231 83 11 4 2147483648 2147483668 as_b73 Eb_b73 f_b73 rs_b73 (e2_orG 231 83 11 4 2147483648 2147483668 as_b72 Eb_b72 f_b72 rs_b72 (e2_orG 231 83 11 4 2147483648 2147483668 as_b71 Eb_b71 f_b71 rs_b71 (e2_orG 231 83 11 4 2147483648 2147483668 as_b70 Eb_b70 f_b70 rs_b70 (e2_orG 231 83 11 4 2147483648 2147483668 as_b69 Eb_b69 f_b69 rs_b69 (e2_orG 231 83 11 4 2147483648 2147483668 as_b68 Eb_b68 f_b68 rs_b68 (e2_orG 231 83 11 4 2147483648 2147483668 as_b67 Eb_b67 f_b67 rs_b67 (e2_orG 231 83 11 4 2147483648 2147483668 as_b66 Eb_b66 f_b66 rs_b66 (e2_orG 231 83 11 4 2147483648 2147483668 as_b65 Eb_b65 f_b65 rs_b65 (e2_orG 231 83 11 4 2147483648 2147483668 as_b64 Eb_b64 f_b64 rs_b64 (e2_cal S_b84 I_b84 4000 1))))))))))))))))))))) (e2_fin rs_b84) e2x_230 (e2_bpL cl_b84_e) (e2_cutA cl_b84_e) 4000 (e2_seek e2x_230 0) (e2_al 5 as_b84) [] E_b84 f_b84 = true := by decide +kernel
noncomputable def cl_b84_21 : List (Nat × e2_S) := [(2, e2_cutL (al_b84_21.set 2 (13, 12, 2147483657)) 4 (E_b84_21.take 4) h_b84_21),
  (49, e2_cutL (al_b84_22.set 2 (11, 2147483647, 2147483667)) 4 (E_b84_22.take 4) h_b84_22)]
set_option maxRecDepth 1000000 in
theorem ck_b84_21 : e2_runM (e2_orG 231 83 11 4 2147483648 2147483668 as_b83 Eb_b83 f_b83 rs_b83 (e2_orG 231 83 11 4 2147483648 2147483668 as_b82 Eb_b82 f_b82 rs_b82 (e2_orG 231 83 11 4 2147483648 2147483668 as_b81 Eb_b81 f_b81 rs_b81 (e2_orG 231 83 11 4 2147483648 2147483668 as_b80 Eb_b80 f_b80 rs_b80 (e2_orG 231 83 11 4 2147483648 2147483668 as_b79 Eb_b79 f_b79 rs_b79 (e2_orG 231 83 11 4 2147483648 2147483668 as_b78 Eb_b78 f_b78 rs_b78 (e2_orG 231 83 11 4 2147483648 2147483668 as_b77 Eb_b77 f_b77 rs_b77 (e2_orG 231 83 11 4 2147483648 2147483668 as_b76 Eb_b76 f_b76 rs_b76 (e2_orG 231 83 11 4 2147483648 2147483668 as_b75 Eb_b75 f_b75 rs_b75 (e2_orG 231 83 11 4 2147483648 2147483668 as_b74 Eb_b74 f_b74 rs_b74 (e2_orG 231 83 11 4 2147483648 2147483668 as_b73 Eb_b73 f_b73 rs_b73 (e2_orG 231 83 11 4 2147483648 2147483668 as_b72 Eb_b72 f_b72 rs_b72 (e2_orG 231 83 11 4 2147483648 2147483668 as_b71 Eb_b71 f_b71 rs_b71 (e2_orG 231 83 11 4 2147483648 2147483668 as_b70 Eb_b70 f_b70 rs_b70 (e2_orG 231 83 11 4 2147483648 2147483668 as_b69 Eb_b69 f_b69 rs_b69 (e2_orG 231 83 11 4 2147483648 2147483668 as_b68 Eb_b68 f_b68 rs_b68 (e2_orG 231 83 11 4 2147483648 2147483668 as_b67 Eb_b67 f_b67 rs_b67 (e2_orG 231 83 11 4 2147483648 2147483668 as_b66 Eb_b66 f_b66 rs_b66 (e2_orG 231 83 11 4 2147483648 2147483668 as_b65 Eb_b65 f_b65 rs_b65 (e2_orG 231 83 11 4 2147483648 2147483668 as_b64 Eb_b64 f_b64 rs_b64 (e2_cal S_b84 I_b84 4000 1))))))))))))))))))))) (e2_fin rs_b84) e2x_230 (e2_bpL cl_b84_21) (e2_cutA cl_b84_21) 4000 (e2_seek e2x_230 2) al_b84_21 [] E_b84_21 h_b84_21 = true := by decide +kernel
set_option maxRecDepth 1000000 in
theorem ci_b84_21 : e2_idl 4 (al_b84_21.set 2 (9, 0, 0)) = true := by decide +kernel
set_option maxRecDepth 1000000 in
theorem cj_b84_21 : e2_idh 4 8 h_b84_21 = true := by decide +kernel
noncomputable def cl_b84_22 : List (Nat × e2_S) := [(120, e2_cutS cu_b84_120),
  (55, e2_cutL (al_b84_23.set 3 (11, 2147483648, 2147483657)) 5 (E_b84_23.take 5) h_b84_23)]
set_option maxRecDepth 1000000 in
theorem ck_b84_22 : e2_runM (e2_orG 231 83 11 4 2147483648 2147483668 as_b83 Eb_b83 f_b83 rs_b83 (e2_orG 231 83 11 4 2147483648 2147483668 as_b82 Eb_b82 f_b82 rs_b82 (e2_orG 231 83 11 4 2147483648 2147483668 as_b81 Eb_b81 f_b81 rs_b81 (e2_orG 231 83 11 4 2147483648 2147483668 as_b80 Eb_b80 f_b80 rs_b80 (e2_orG 231 83 11 4 2147483648 2147483668 as_b79 Eb_b79 f_b79 rs_b79 (e2_orG 231 83 11 4 2147483648 2147483668 as_b78 Eb_b78 f_b78 rs_b78 (e2_orG 231 83 11 4 2147483648 2147483668 as_b77 Eb_b77 f_b77 rs_b77 (e2_orG 231 83 11 4 2147483648 2147483668 as_b76 Eb_b76 f_b76 rs_b76 (e2_orG 231 83 11 4 2147483648 2147483668 as_b75 Eb_b75 f_b75 rs_b75 (e2_orG 231 83 11 4 2147483648 2147483668 as_b74 Eb_b74 f_b74 rs_b74 (e2_orG 231 83 11 4 2147483648 2147483668 as_b73 Eb_b73 f_b73 rs_b73 (e2_orG 231 83 11 4 2147483648 2147483668 as_b72 Eb_b72 f_b72 rs_b72 (e2_orG 231 83 11 4 2147483648 2147483668 as_b71 Eb_b71 f_b71 rs_b71 (e2_orG 231 83 11 4 2147483648 2147483668 as_b70 Eb_b70 f_b70 rs_b70 (e2_orG 231 83 11 4 2147483648 2147483668 as_b69 Eb_b69 f_b69 rs_b69 (e2_orG 231 83 11 4 2147483648 2147483668 as_b68 Eb_b68 f_b68 rs_b68 (e2_orG 231 83 11 4 2147483648 2147483668 as_b67 Eb_b67 f_b67 rs_b67 (e2_orG 231 83 11 4 2147483648 2147483668 as_b66 Eb_b66 f_b66 rs_b66 (e2_orG 231 83 11 4 2147483648 2147483668 as_b65 Eb_b65 f_b65 rs_b65 (e2_orG 231 83 11 4 2147483648 2147483668 as_b64 Eb_b64 f_b64 rs_b64 (e2_cal S_b84 I_b84 4000 1))))))))))))))))))))) (e2_fin rs_b84) e2x_230 (e2_bpL cl_b84_22) (e2_cutA cl_b84_22) 4000 (e2_seek e2x_230 49) al_b84_22 [] E_b84_22 h_b84_22 = true := by decide +kernel
set_option maxRecDepth 1000000 in
theorem ci_b84_22 : e2_idl 4 (al_b84_22.set 2 (9, 0, 0)) = true := by decide +kernel
set_option maxRecDepth 1000000 in
theorem cj_b84_22 : e2_idh 4 8 h_b84_22 = true := by decide +kernel
noncomputable def cl_b84_23 : List (Nat × e2_S) := [(49, e2_cutL (al_b84_22.set 2 (12, 12, 2147483647)) 4 (E_b84_22.take 4) h_b84_22),
  (55, e2_cutL (al_b84_23.set 3 (13, 13, 2147483657)) 5 (E_b84_23.take 5) h_b84_23)]
set_option maxRecDepth 1000000 in
theorem ck_b84_23 : e2_runM (e2_orG 231 83 11 4 2147483648 2147483668 as_b83 Eb_b83 f_b83 rs_b83 (e2_orG 231 83 11 4 2147483648 2147483668 as_b82 Eb_b82 f_b82 rs_b82 (e2_orG 231 83 11 4 2147483648 2147483668 as_b81 Eb_b81 f_b81 rs_b81 (e2_orG 231 83 11 4 2147483648 2147483668 as_b80 Eb_b80 f_b80 rs_b80 (e2_orG 231 83 11 4 2147483648 2147483668 as_b79 Eb_b79 f_b79 rs_b79 (e2_orG 231 83 11 4 2147483648 2147483668 as_b78 Eb_b78 f_b78 rs_b78 (e2_orG 231 83 11 4 2147483648 2147483668 as_b77 Eb_b77 f_b77 rs_b77 (e2_orG 231 83 11 4 2147483648 2147483668 as_b76 Eb_b76 f_b76 rs_b76 (e2_orG 231 83 11 4 2147483648 2147483668 as_b75 Eb_b75 f_b75 rs_b75 (e2_orG 231 83 11 4 2147483648 2147483668 as_b74 Eb_b74 f_b74 rs_b74 (e2_orG 231 83 11 4 2147483648 2147483668 as_b73 Eb_b73 f_b73 rs_b73 (e2_orG 231 83 11 4 2147483648 2147483668 as_b72 Eb_b72 f_b72 rs_b72 (e2_orG 231 83 11 4 2147483648 2147483668 as_b71 Eb_b71 f_b71 rs_b71 (e2_orG 231 83 11 4 2147483648 2147483668 as_b70 Eb_b70 f_b70 rs_b70 (e2_orG 231 83 11 4 2147483648 2147483668 as_b69 Eb_b69 f_b69 rs_b69 (e2_orG 231 83 11 4 2147483648 2147483668 as_b68 Eb_b68 f_b68 rs_b68 (e2_orG 231 83 11 4 2147483648 2147483668 as_b67 Eb_b67 f_b67 rs_b67 (e2_orG 231 83 11 4 2147483648 2147483668 as_b66 Eb_b66 f_b66 rs_b66 (e2_orG 231 83 11 4 2147483648 2147483668 as_b65 Eb_b65 f_b65 rs_b65 (e2_orG 231 83 11 4 2147483648 2147483668 as_b64 Eb_b64 f_b64 rs_b64 (e2_cal S_b84 I_b84 4000 1))))))))))))))))))))) (e2_fin rs_b84) e2x_230 (e2_bpL cl_b84_23) (e2_cutA cl_b84_23) 4000 (e2_seek e2x_230 55) al_b84_23 [] E_b84_23 h_b84_23 = true := by decide +kernel
set_option maxRecDepth 1000000 in
theorem ci_b84_23 : e2_idl 5 (al_b84_23.set 3 (9, 0, 0)) = true := by decide +kernel
set_option maxRecDepth 1000000 in
theorem cj_b84_23 : e2_idh 5 8 h_b84_23 = true := by decide +kernel
set_option maxRecDepth 1000000 in
theorem ck_b84_u120 : e2_cutsB (e2_orG 231 83 11 4 2147483648 2147483668 as_b83 Eb_b83 f_b83 rs_b83 (e2_orG 231 83 11 4 2147483648 2147483668 as_b82 Eb_b82 f_b82 rs_b82 (e2_orG 231 83 11 4 2147483648 2147483668 as_b81 Eb_b81 f_b81 rs_b81 (e2_orG 231 83 11 4 2147483648 2147483668 as_b80 Eb_b80 f_b80 rs_b80 (e2_orG 231 83 11 4 2147483648 2147483668 as_b79 Eb_b79 f_b79 rs_b79 (e2_orG 231 83 11 4 2147483648 2147483668 as_b78 Eb_b78 f_b78 rs_b78 (e2_orG 231 83 11 4 2147483648 2147483668 as_b77 Eb_b77 f_b77 rs_b77 (e2_orG 231 83 11 4 2147483648 2147483668 as_b76 Eb_b76 f_b76 rs_b76 (e2_orG 231 83 11 4 2147483648 2147483668 as_b75 Eb_b75 f_b75 rs_b75 (e2_orG 231 83 11 4 2147483648 2147483668 as_b74 Eb_b74 f_b74 rs_b74 (e2_orG 231 83 11 4 2147483648 2147483668 as_b73 Eb_b73 f_b73 rs_b73 (e2_orG 231 83 11 4 2147483648 2147483668 as_b72 Eb_b72 f_b72 rs_b72 (e2_orG 231 83 11 4 2147483648 2147483668 as_b71 Eb_b71 f_b71 rs_b71 (e2_orG 231 83 11 4 2147483648 2147483668 as_b70 Eb_b70 f_b70 rs_b70 (e2_orG 231 83 11 4 2147483648 2147483668 as_b69 Eb_b69 f_b69 rs_b69 (e2_orG 231 83 11 4 2147483648 2147483668 as_b68 Eb_b68 f_b68 rs_b68 (e2_orG 231 83 11 4 2147483648 2147483668 as_b67 Eb_b67 f_b67 rs_b67 (e2_orG 231 83 11 4 2147483648 2147483668 as_b66 Eb_b66 f_b66 rs_b66 (e2_orG 231 83 11 4 2147483648 2147483668 as_b65 Eb_b65 f_b65 rs_b65 (e2_orG 231 83 11 4 2147483648 2147483668 as_b64 Eb_b64 f_b64 rs_b64 (e2_cal S_b84 I_b84 4000 1))))))))))))))))))))) (e2_fin rs_b84) e2x_230 120 4000 cu_b84_120 = true := by decide +kernel
set_option maxRecDepth 1000000 in
theorem cs_b84 (hen : en_ok) (l : Launch) : e2_smOk l 5 s_b84 := by
  refine e2_conC (H := 4) (C := evd_230) (call := (e2_orG 231 83 11 4 2147483648 2147483668 as_b83 Eb_b83 f_b83 rs_b83 (e2_orG 231 83 11 4 2147483648 2147483668 as_b82 Eb_b82 f_b82 rs_b82 (e2_orG 231 83 11 4 2147483648 2147483668 as_b81 Eb_b81 f_b81 rs_b81 (e2_orG 231 83 11 4 2147483648 2147483668 as_b80 Eb_b80 f_b80 rs_b80 (e2_orG 231 83 11 4 2147483648 2147483668 as_b79 Eb_b79 f_b79 rs_b79 (e2_orG 231 83 11 4 2147483648 2147483668 as_b78 Eb_b78 f_b78 rs_b78 (e2_orG 231 83 11 4 2147483648 2147483668 as_b77 Eb_b77 f_b77 rs_b77 (e2_orG 231 83 11 4 2147483648 2147483668 as_b76 Eb_b76 f_b76 rs_b76 (e2_orG 231 83 11 4 2147483648 2147483668 as_b75 Eb_b75 f_b75 rs_b75 (e2_orG 231 83 11 4 2147483648 2147483668 as_b74 Eb_b74 f_b74 rs_b74 (e2_orG 231 83 11 4 2147483648 2147483668 as_b73 Eb_b73 f_b73 rs_b73 (e2_orG 231 83 11 4 2147483648 2147483668 as_b72 Eb_b72 f_b72 rs_b72 (e2_orG 231 83 11 4 2147483648 2147483668 as_b71 Eb_b71 f_b71 rs_b71 (e2_orG 231 83 11 4 2147483648 2147483668 as_b70 Eb_b70 f_b70 rs_b70 (e2_orG 231 83 11 4 2147483648 2147483668 as_b69 Eb_b69 f_b69 rs_b69 (e2_orG 231 83 11 4 2147483648 2147483668 as_b68 Eb_b68 f_b68 rs_b68 (e2_orG 231 83 11 4 2147483648 2147483668 as_b67 Eb_b67 f_b67 rs_b67 (e2_orG 231 83 11 4 2147483648 2147483668 as_b66 Eb_b66 f_b66 rs_b66 (e2_orG 231 83 11 4 2147483648 2147483668 as_b65 Eb_b65 f_b65 rs_b65 (e2_orG 231 83 11 4 2147483648 2147483668 as_b64 Eb_b64 f_b64 rs_b64 (e2_cal S_b84 I_b84 4000 1)))))))))))))))))))))) ei_230 (fun d hd => (e2_orG_ok (k0 := 231) (a := 83) (j := 11) (n := 4) (lo := 2147483648) (hi := 2147483668) (as0 := as_b83) (Eb := Eb_b83) (f := f_b83) (res := rs_b83) (e2_orG_ok (k0 := 231) (a := 83) (j := 11) (n := 4) (lo := 2147483648) (hi := 2147483668) (as0 := as_b82) (Eb := Eb_b82) (f := f_b82) (res := rs_b82) (e2_orG_ok (k0 := 231) (a := 83) (j := 11) (n := 4) (lo := 2147483648) (hi := 2147483668) (as0 := as_b81) (Eb := Eb_b81) (f := f_b81) (res := rs_b81) (e2_orG_ok (k0 := 231) (a := 83) (j := 11) (n := 4) (lo := 2147483648) (hi := 2147483668) (as0 := as_b80) (Eb := Eb_b80) (f := f_b80) (res := rs_b80) (e2_orG_ok (k0 := 231) (a := 83) (j := 11) (n := 4) (lo := 2147483648) (hi := 2147483668) (as0 := as_b79) (Eb := Eb_b79) (f := f_b79) (res := rs_b79) (e2_orG_ok (k0 := 231) (a := 83) (j := 11) (n := 4) (lo := 2147483648) (hi := 2147483668) (as0 := as_b78) (Eb := Eb_b78) (f := f_b78) (res := rs_b78) (e2_orG_ok (k0 := 231) (a := 83) (j := 11) (n := 4) (lo := 2147483648) (hi := 2147483668) (as0 := as_b77) (Eb := Eb_b77) (f := f_b77) (res := rs_b77) (e2_orG_ok (k0 := 231) (a := 83) (j := 11) (n := 4) (lo := 2147483648) (hi := 2147483668) (as0 := as_b76) (Eb := Eb_b76) (f := f_b76) (res := rs_b76) (e2_orG_ok (k0 := 231) (a := 83) (j := 11) (n := 4) (lo := 2147483648) (hi := 2147483668) (as0 := as_b75) (Eb := Eb_b75) (f := f_b75) (res := rs_b75) (e2_orG_ok (k0 := 231) (a := 83) (j := 11) (n := 4) (lo := 2147483648) (hi := 2147483668) (as0 := as_b74) (Eb := Eb_b74) (f := f_b74) (res := rs_b74) (e2_orG_ok (k0 := 231) (a := 83) (j := 11) (n := 4) (lo := 2147483648) (hi := 2147483668) (as0 := as_b73) (Eb := Eb_b73) (f := f_b73) (res := rs_b73) (e2_orG_ok (k0 := 231) (a := 83) (j := 11) (n := 4) (lo := 2147483648) (hi := 2147483668) (as0 := as_b72) (Eb := Eb_b72) (f := f_b72) (res := rs_b72) (e2_orG_ok (k0 := 231) (a := 83) (j := 11) (n := 4) (lo := 2147483648) (hi := 2147483668) (as0 := as_b71) (Eb := Eb_b71) (f := f_b71) (res := rs_b71) (e2_orG_ok (k0 := 231) (a := 83) (j := 11) (n := 4) (lo := 2147483648) (hi := 2147483668) (as0 := as_b70) (Eb := Eb_b70) (f := f_b70) (res := rs_b70) (e2_orG_ok (k0 := 231) (a := 83) (j := 11) (n := 4) (lo := 2147483648) (hi := 2147483668) (as0 := as_b69) (Eb := Eb_b69) (f := f_b69) (res := rs_b69) (e2_orG_ok (k0 := 231) (a := 83) (j := 11) (n := 4) (lo := 2147483648) (hi := 2147483668) (as0 := as_b68) (Eb := Eb_b68) (f := f_b68) (res := rs_b68) (e2_orG_ok (k0 := 231) (a := 83) (j := 11) (n := 4) (lo := 2147483648) (hi := 2147483668) (as0 := as_b67) (Eb := Eb_b67) (f := f_b67) (res := rs_b67) (e2_orG_ok (k0 := 231) (a := 83) (j := 11) (n := 4) (lo := 2147483648) (hi := 2147483668) (as0 := as_b66) (Eb := Eb_b66) (f := f_b66) (res := rs_b66) (e2_orG_ok (k0 := 231) (a := 83) (j := 11) (n := 4) (lo := 2147483648) (hi := 2147483668) (as0 := as_b65) (Eb := Eb_b65) (f := f_b65) (res := rs_b65) (e2_orG_ok (k0 := 231) (a := 83) (j := 11) (n := 4) (lo := 2147483648) (hi := 2147483668) (as0 := as_b64) (Eb := Eb_b64) (f := f_b64) (res := rs_b64) (e2_cal_ok hen (e2_fa (cs_b24 hen l) (e2_fa (cs_b25 hen l) (e2_fa (cs_b26 hen l) (e2_fa (cs_b27 hen l) (e2_fa (cs_b28 hen l) (e2_fa (cs_b29 hen l) (e2_fa (cs_b30 hen l) (e2_fa (cs_b31 hen l) (e2_fa (cs_b32 hen l) (e2_fa (cs_b33 hen l) (e2_fa (cs_b34 hen l) (e2_fa (cs_b35 hen l) (e2_fa (cs_b36 hen l) (e2_fa (cs_b37 hen l) (e2_fa (cs_b38 hen l) (e2_fa (cs_b39 hen l) (e2_fa (cs_b40 hen l) (e2_fa (cs_b41 hen l) (e2_fa (cs_b42 hen l) (e2_fa (cs_b43 hen l) e2_fz)))))))))))))))))))) (e2_fa ein_216 (e2_fa ein_217 (e2_fa ein_227 e2_fz))) 1 d (by omega)) rfl (by decide +kernel) (fun M hM => (cs_b64 hen l).2 M hM d (by omega)) (e2_okGB_ok cog_b64)) rfl (by decide +kernel) (fun M hM => (cs_b65 hen l).2 M hM d (by omega)) (e2_okGB_ok cog_b65)) rfl (by decide +kernel) (fun M hM => (cs_b66 hen l).2 M hM d (by omega)) (e2_okGB_ok cog_b66)) rfl (by decide +kernel) (fun M hM => (cs_b67 hen l).2 M hM d (by omega)) (e2_okGB_ok cog_b67)) rfl (by decide +kernel) (fun M hM => (cs_b68 hen l).2 M hM d (by omega)) (e2_okGB_ok cog_b68)) rfl (by decide +kernel) (fun M hM => (cs_b69 hen l).2 M hM d (by omega)) (e2_okGB_ok cog_b69)) rfl (by decide +kernel) (fun M hM => (cs_b70 hen l).2 M hM d (by omega)) (e2_okGB_ok cog_b70)) rfl (by decide +kernel) (fun M hM => (cs_b71 hen l).2 M hM d (by omega)) (e2_okGB_ok cog_b71)) rfl (by decide +kernel) (fun M hM => (cs_b72 hen l).2 M hM d (by omega)) (e2_okGB_ok cog_b72)) rfl (by decide +kernel) (fun M hM => (cs_b73 hen l).2 M hM d (by omega)) (e2_okGB_ok cog_b73)) rfl (by decide +kernel) (fun M hM => (cs_b74 hen l).2 M hM d (by omega)) (e2_okGB_ok cog_b74)) rfl (by decide +kernel) (fun M hM => (cs_b75 hen l).2 M hM d (by omega)) (e2_okGB_ok cog_b75)) rfl (by decide +kernel) (fun M hM => (cs_b76 hen l).2 M hM d (by omega)) (e2_okGB_ok cog_b76)) rfl (by decide +kernel) (fun M hM => (cs_b77 hen l).2 M hM d (by omega)) (e2_okGB_ok cog_b77)) rfl (by decide +kernel) (fun M hM => (cs_b78 hen l).2 M hM d (by omega)) (e2_okGB_ok cog_b78)) rfl (by decide +kernel) (fun M hM => (cs_b79 hen l).2 M hM d (by omega)) (e2_okGB_ok cog_b79)) rfl (by decide +kernel) (fun M hM => (cs_b80 hen l).2 M hM d (by omega)) (e2_okGB_ok cog_b80)) rfl (by decide +kernel) (fun M hM => (cs_b81 hen l).2 M hM d (by omega)) (e2_okGB_ok cog_b81)) rfl (by decide +kernel) (fun M hM => (cs_b82 hen l).2 M hM d (by omega)) (e2_okGB_ok cog_b82)) rfl (by decide +kernel) (fun M hM => (cs_b83 hen l).2 M hM d (by omega)) (e2_okGB_ok cog_b83))) (by decide) co_b84 fun M d _ hC hcall p e R s m args below meth c Q D cA A ads r0 ha hl0 => ?_
  have EN_120 := e2_cutS_ok (bp := 120) (cuts := cu_b84_120) (e2_cuts_len hl0 (by decide +kernel)) (e2_cuts_ok hen ha hcall (hC [76, 192, 195]) (X := e2x_230) ex2_230 (e2_cuts_len hl0 (by decide +kernel)) ck_b84_u120)
  have L_22 : e2_gdM M p l e R s m args below meth c Q D cA A ads r0 49 al_b84_22 [] E_b84_22 h_b84_22 := by
    refine e2_indD (u := 4) (j := 2) (lo := 2147483647) (hi := 2147483667) hl0 (by decide) rfl rfl rfl ci_b84_22 cj_b84_22 ?_
    intro r_22 k_22 hk_22 hp_22 hs_22 hn_22
    have hl_22 : r_22.length ≤ 5 := hs_22.len rfl
    have ha_22 := ha.ext hp_22
    have L_23 : e2_gdM M p l e R s m args below meth c Q D cA A ads r_22 55 al_b84_23 [] E_b84_23 h_b84_23 := by
      refine e2_indL (u := 5) (j := 3) (lo := 2147483648) (hi := 2147483657) (b := 5) (dd := 0) hl_22 (by decide) rfl rfl (Or.inr ⟨rfl, rfl⟩) rfl ci_b84_23 cj_b84_23 ?_
      intro r_23 k_23 hk_23 hp_23 hs_23 hn_23
      have hl_23 : r_23.length ≤ 6 := hs_23.len rfl
      have ha_23 := ha_22.ext hp_23
      exact e2_fromM hen ha_23 hcall (e2_cutA_ok (e2_fa (fun al st E h hc => (hn_22 al st E h hc).ext hp_23) (e2_fa (fun al st E h hc => hn_23 al st E h hc) e2_fz))) (hC [76, 192, 195]) (X := e2x_230) ex2_230 55 ck_b84_23
    have EN_23 := e2_entL (u := 5) (j := 3) (lo := 2147483648) (hi := 2147483657) hl_22 rfl rfl rfl ci_b84_23 cj_b84_23 L_23
    exact e2_fromM hen ha_22 hcall (e2_cutA_ok (e2_fa (fun al st E h hc => (EN_120 al st E h hc).ext hp_22) (e2_fa (fun al st E h hc => EN_23 al st E h hc) e2_fz))) (hC [76, 192, 195]) (X := e2x_230) ex2_230 49 ck_b84_22
  have EN_22 := e2_entL (u := 4) (j := 2) (lo := 2147483647) (hi := 2147483667) hl0 rfl rfl rfl ci_b84_22 cj_b84_22 L_22
  have L_21 : e2_gdM M p l e R s m args below meth c Q D cA A ads r0 2 al_b84_21 [] E_b84_21 h_b84_21 := by
    refine e2_indL (u := 4) (j := 2) (lo := 2147483648) (hi := 2147483657) (b := 4) (dd := 0) hl0 (by decide) rfl rfl (Or.inr ⟨rfl, rfl⟩) rfl ci_b84_21 cj_b84_21 ?_
    intro r_21 k_21 hk_21 hp_21 hs_21 hn_21
    have hl_21 : r_21.length ≤ 5 := hs_21.len rfl
    have ha_21 := ha.ext hp_21
    exact e2_fromM hen ha_21 hcall (e2_cutA_ok (e2_fa (fun al st E h hc => hn_21 al st E h hc) (e2_fa (fun al st E h hc => (EN_22 al st E h hc).ext hp_21) e2_fz))) (hC [76, 192, 195]) (X := e2x_230) ex2_230 2 ck_b84_21
  have EN_21 := e2_entL (u := 4) (j := 2) (lo := 2147483648) (hi := 2147483657) hl0 rfl rfl rfl ci_b84_21 cj_b84_21 L_21
  exact e2_from hen ha hcall (e2_cutA_ok (e2_fa (fun al st E h hc => EN_21 al st E h hc) e2_fz)) (hC [76, 192, 195]) (X := e2x_230) ex2_230 0 ck_b84_e
/-! b85 X10_read -/
def as_b85 : List ev_V := [(2, 83, 0), (11, 0, 4294967295)]
def E_b85 : e2_E := [(2147483648, 2147583648, 0, 0), (2147483649, 2147483649, 1, 0), (2147483648, 2147483688, 2, 0), (2147483648, 2147483688, 3, 0)]
def bc162 : ev_C := (50, [(11, 2147483649, 2147483654), (11, 2147483648, 2147483654), (11, 2147483648, 2147483654), (11, 2147483648, 2147483654), (11, 2147483648, 2147483654), (11, 2147483648, 2147483654), (11, 2147483648, 2147483654), (11, 2147483648, 2147483654), (11, 2147483648, 2147483654), (11, 2147483648, 2147483654), (11, 2147483648, 2147483654), (11, 2147483648, 2147483654), (11, 2147483648, 2147483654), (11, 2147483648, 2147483654), (11, 2147483648, 2147483654), (11, 2147483648, 2147483654)])
def bn499 : e2_Q1 := (bc162, bc3)
def bn500 : e2_Q2 := (bn130, bn499)
def bn501 : e2_Q3 := (bn129, bn500)
def bn502 : e2_Q4 := (bn501, bn386)
def bn503 : e2_Q5 := (bn502, bn156)
def bn504 : e2_Q6 := (bn503, bn487)
def bn505 : e2_Q7 := (bn504, bn451)
def bn506 : e2_Q8 := (bn477, bn505)
noncomputable def f_b85 : ev_H := (bn506 : e2_Q8)
noncomputable def q_b85_0 : ev_H := (bn506 : e2_Q8)
noncomputable def rs_b85 : e2_Rs := [((11, 2147483647, 2147483668), q_b85_0)]
noncomputable def s_b85 : e2_Sm := (230, as_b85, E_b85, f_b85, rs_b85)
noncomputable def S_b85 : List e2_Sm := [s_b24, s_b25, s_b26, s_b27, s_b28, s_b29, s_b30, s_b31, s_b32, s_b33, s_b34, s_b35, s_b36, s_b37, s_b38, s_b39, s_b40, s_b41, s_b42, s_b43]
noncomputable def I_b85 : List e2_In := [(216, 1, e2x_216), (217, 1, e2x_217), (227, 2, e2x_227)]
set_option maxRecDepth 1000000 in
theorem co_b85 : e2_okSB E_b85.length as_b85 f_b85 rs_b85 = true := by decide +kernel
def al_b85_26 : List ev_V := [(2, 83, 0), (11, 0, 4294967295), (1, 4, 4294967296), (9, 0, 0), (9, 0, 0)]
def E_b85_26 : e2_E := [(2147483648, 2147583648, 0, 0), (2147483649, 2147483649, 1, 0), (2147483648, 2147483688, 2, 0), (2147483648, 2147483688, 3, 0), (2147483648, 2147483657, 4, 0)]
noncomputable def h_b85_26 : ev_H := (bn506 : e2_Q8)
def al_b85_27 : List ev_V := [(2, 83, 0), (11, 0, 4294967295), (1, 4, 4294967296), (9, 0, 0), (9, 0, 0)]
def E_b85_27 : e2_E := [(2147483648, 2147583648, 0, 0), (2147483649, 2147483649, 1, 0), (2147483648, 2147483688, 2, 0), (2147483648, 2147483688, 3, 0), (2147483647, 2147483667, 4, 0)]
noncomputable def h_b85_27 : ev_H := (bn506 : e2_Q8)
def al_b85_28 : List ev_V := [(2, 83, 0), (11, 0, 4294967295), (1, 4, 4294967296), (1, 5, 4294967296), (9, 0, 0)]
def E_b85_28 : e2_E := [(2147483648, 2147583648, 0, 0), (2147483649, 2147483649, 1, 0), (2147483648, 2147483688, 2, 0), (2147483648, 2147483688, 3, 0), (2147483648, 2147483667, 4, 0), (2147483648, 2147483657, 5, 0)]
noncomputable def h_b85_28 : ev_H := (bn506 : e2_Q8)
def bn507 : e2_Q7 := (bn504, bn496)
def bn508 : e2_Q8 := (bn477, bn507)
noncomputable def h_b85_0 : ev_H := (bn508 : e2_Q8)
def bc163 : ev_C := (10, [(0, 0, 0), (2, 88, 0), (2, 115, 0), (2, 114, 0), (2, 86, 0), (2, 112, 0), (1, 2, 4294967296), (2, 118, 0), (2, 120, 0), (2, 131, 0), (2, 91, 0), (11, 2147483648, 2147483649), (2, 123, 0), (11, 2147483648, 2147483649), (11, 2147483648, 2147485248), (2, 87, 0), (2, 84, 0), (2, 122, 0), (2, 100, 0), (2, 132, 0), (11, 2147483648, 2147483668), (11, 2147483648, 2147485248), (1, 0, 4294967296), (11, 0, 4294967295), (11, 2147483648, 2147485248), (2, 93, 0), (2, 104, 0), (11, 2147483648, 2147483678), (2, 89, 0), (2, 92, 0), (2, 119, 0), (2, 90, 0), (2, 94, 0), (2, 103, 0), (1, 3, 4294967296), (11, 0, 4294967295), (11, 0, 4294967295), (11, 2147483648, 2147485249), (11, 2147483648, 2147483653), (11, 2147483648, 2147483668), (2, 85, 0), (11, 2147483648, 2147493647), (5, 0, 0), (2, 95, 0), (2, 96, 0), (2, 97, 0), (2, 98, 0), (2, 99, 0), (2, 101, 0), (2, 102, 0), (2, 105, 0), (2, 106, 0), (2, 107, 0), (2, 108, 0), (2, 109, 0), (2, 110, 0), (2, 111, 0), (11, 2147483648, 2147484768), (11, 2147482048, 2147483655), (11, 2147483648, 2147483738), (11, 2147483648, 2147483678), (11, 0, 4294967295), (11, 0, 4294967295), (11, 0, 4294967295), (11, 0, 4294967295), (11, 0, 4294967295), (2, 113, 0), (2, 116, 0), (2, 117, 0), (2, 121, 0), (11, 0, 4294967295), (11, 0, 4294967295), (2, 124, 0), (2, 125, 0), (11, 0, 4294967295), (2, 126, 0), (2, 127, 0), (2, 128, 0), (2, 129, 0), (2, 130, 0)])
def bn509 : e2_Q1 := (bc163, bc3)
def bn510 : e2_Q2 := (bn197, bn509)
def bn511 : e2_Q3 := (bn510, bn447)
def bn512 : e2_Q4 := (bn196, bn511)
def bn513 : e2_Q5 := (bn512, bn219)
def bn514 : e2_Q6 := (bn513, bn251)
def bn515 : e2_Q7 := (bn504, bn514)
def bn516 : e2_Q8 := (bn477, bn515)
noncomputable def h_b85_1 : ev_H := (bn516 : e2_Q8)
def bc164 : ev_C := (10, [(0, 0, 0), (2, 88, 0), (2, 115, 0), (2, 114, 0), (2, 86, 0), (2, 112, 0), (1, 2, 4294967296), (2, 118, 0), (2, 120, 0), (2, 131, 0), (2, 91, 0), (11, 2147483648, 2147483650), (2, 123, 0), (11, 2147483648, 2147483649), (11, 2147483648, 2147485248), (2, 87, 0), (2, 84, 0), (2, 122, 0), (2, 100, 0), (2, 132, 0), (11, 2147483648, 2147483668), (11, 2147483648, 2147485248), (1, 0, 4294967296), (11, 0, 4294967295), (11, 2147483648, 2147485248), (2, 93, 0), (2, 104, 0), (11, 2147483648, 2147483678), (2, 89, 0), (2, 92, 0), (2, 119, 0), (2, 90, 0), (2, 94, 0), (2, 103, 0), (1, 3, 4294967296), (11, 0, 4294967295), (11, 0, 4294967295), (11, 2147483648, 2147485249), (11, 2147483648, 2147483653), (11, 2147483648, 2147483668), (2, 85, 0), (11, 2147483648, 2147493647), (5, 0, 0), (2, 95, 0), (2, 96, 0), (2, 97, 0), (2, 98, 0), (2, 99, 0), (2, 101, 0), (2, 102, 0), (2, 105, 0), (2, 106, 0), (2, 107, 0), (2, 108, 0), (2, 109, 0), (2, 110, 0), (2, 111, 0), (11, 2147483648, 2147484768), (11, 2147482048, 2147483655), (11, 2147483648, 2147483738), (11, 2147483648, 2147483678), (11, 0, 4294967295), (11, 0, 4294967295), (11, 0, 4294967295), (11, 0, 4294967295), (11, 0, 4294967295), (2, 113, 0), (2, 116, 0), (2, 117, 0), (2, 121, 0), (11, 0, 4294967295), (11, 0, 4294967295), (2, 124, 0), (2, 125, 0), (11, 0, 4294967295), (2, 126, 0), (2, 127, 0), (2, 128, 0), (2, 129, 0), (2, 130, 0)])
def bn517 : e2_Q1 := (bc164, bc3)
def bn518 : e2_Q2 := (bn197, bn517)
def bn519 : e2_Q3 := (bn518, bn447)
def bn520 : e2_Q4 := (bn196, bn519)
def bn521 : e2_Q5 := (bn520, bn219)
def bn522 : e2_Q6 := (bn521, bn251)
def bn523 : e2_Q7 := (bn504, bn522)
def bn524 : e2_Q8 := (bn477, bn523)
noncomputable def h_b85_2 : ev_H := (bn524 : e2_Q8)
def bc165 : ev_C := (10, [(0, 0, 0), (2, 88, 0), (2, 115, 0), (2, 114, 0), (2, 86, 0), (2, 112, 0), (1, 2, 4294967296), (2, 118, 0), (2, 120, 0), (2, 131, 0), (2, 91, 0), (11, 2147483648, 2147483651), (2, 123, 0), (11, 2147483648, 2147483649), (11, 2147483648, 2147485248), (2, 87, 0), (2, 84, 0), (2, 122, 0), (2, 100, 0), (2, 132, 0), (11, 2147483648, 2147483668), (11, 2147483648, 2147485248), (1, 0, 4294967296), (11, 0, 4294967295), (11, 2147483648, 2147485248), (2, 93, 0), (2, 104, 0), (11, 2147483648, 2147483678), (2, 89, 0), (2, 92, 0), (2, 119, 0), (2, 90, 0), (2, 94, 0), (2, 103, 0), (1, 3, 4294967296), (11, 0, 4294967295), (11, 0, 4294967295), (11, 2147483648, 2147485249), (11, 2147483648, 2147483653), (11, 2147483648, 2147483668), (2, 85, 0), (11, 2147483648, 2147493647), (5, 0, 0), (2, 95, 0), (2, 96, 0), (2, 97, 0), (2, 98, 0), (2, 99, 0), (2, 101, 0), (2, 102, 0), (2, 105, 0), (2, 106, 0), (2, 107, 0), (2, 108, 0), (2, 109, 0), (2, 110, 0), (2, 111, 0), (11, 2147483648, 2147484768), (11, 2147482048, 2147483655), (11, 2147483648, 2147483738), (11, 2147483648, 2147483678), (11, 0, 4294967295), (11, 0, 4294967295), (11, 0, 4294967295), (11, 0, 4294967295), (11, 0, 4294967295), (2, 113, 0), (2, 116, 0), (2, 117, 0), (2, 121, 0), (11, 0, 4294967295), (11, 0, 4294967295), (2, 124, 0), (2, 125, 0), (11, 0, 4294967295), (2, 126, 0), (2, 127, 0), (2, 128, 0), (2, 129, 0), (2, 130, 0)])
def bn525 : e2_Q1 := (bc165, bc3)
def bn526 : e2_Q2 := (bn197, bn525)
def bn527 : e2_Q3 := (bn526, bn447)
def bn528 : e2_Q4 := (bn196, bn527)
def bn529 : e2_Q5 := (bn528, bn219)
def bn530 : e2_Q6 := (bn529, bn251)
def bn531 : e2_Q7 := (bn504, bn530)
def bn532 : e2_Q8 := (bn477, bn531)
noncomputable def h_b85_3 : ev_H := (bn532 : e2_Q8)
def bc166 : ev_C := (10, [(0, 0, 0), (2, 88, 0), (2, 115, 0), (2, 114, 0), (2, 86, 0), (2, 112, 0), (1, 2, 4294967296), (2, 118, 0), (2, 120, 0), (2, 131, 0), (2, 91, 0), (11, 2147483648, 2147483652), (2, 123, 0), (11, 2147483648, 2147483649), (11, 2147483648, 2147485248), (2, 87, 0), (2, 84, 0), (2, 122, 0), (2, 100, 0), (2, 132, 0), (11, 2147483648, 2147483668), (11, 2147483648, 2147485248), (1, 0, 4294967296), (11, 0, 4294967295), (11, 2147483648, 2147485248), (2, 93, 0), (2, 104, 0), (11, 2147483648, 2147483678), (2, 89, 0), (2, 92, 0), (2, 119, 0), (2, 90, 0), (2, 94, 0), (2, 103, 0), (1, 3, 4294967296), (11, 0, 4294967295), (11, 0, 4294967295), (11, 2147483648, 2147485249), (11, 2147483648, 2147483653), (11, 2147483648, 2147483668), (2, 85, 0), (11, 2147483648, 2147493647), (5, 0, 0), (2, 95, 0), (2, 96, 0), (2, 97, 0), (2, 98, 0), (2, 99, 0), (2, 101, 0), (2, 102, 0), (2, 105, 0), (2, 106, 0), (2, 107, 0), (2, 108, 0), (2, 109, 0), (2, 110, 0), (2, 111, 0), (11, 2147483648, 2147484768), (11, 2147482048, 2147483655), (11, 2147483648, 2147483738), (11, 2147483648, 2147483678), (11, 0, 4294967295), (11, 0, 4294967295), (11, 0, 4294967295), (11, 0, 4294967295), (11, 0, 4294967295), (2, 113, 0), (2, 116, 0), (2, 117, 0), (2, 121, 0), (11, 0, 4294967295), (11, 0, 4294967295), (2, 124, 0), (2, 125, 0), (11, 0, 4294967295), (2, 126, 0), (2, 127, 0), (2, 128, 0), (2, 129, 0), (2, 130, 0)])
def bn533 : e2_Q1 := (bc166, bc3)
def bn534 : e2_Q2 := (bn197, bn533)
def bn535 : e2_Q3 := (bn534, bn447)
def bn536 : e2_Q4 := (bn196, bn535)
def bn537 : e2_Q5 := (bn536, bn219)
def bn538 : e2_Q6 := (bn537, bn251)
def bn539 : e2_Q7 := (bn504, bn538)
def bn540 : e2_Q8 := (bn477, bn539)
noncomputable def h_b85_4 : ev_H := (bn540 : e2_Q8)
def bc167 : ev_C := (10, [(0, 0, 0), (2, 88, 0), (2, 115, 0), (2, 114, 0), (2, 86, 0), (2, 112, 0), (1, 2, 4294967296), (2, 118, 0), (2, 120, 0), (2, 131, 0), (2, 91, 0), (11, 2147483648, 2147483653), (2, 123, 0), (11, 2147483648, 2147483649), (11, 2147483648, 2147485248), (2, 87, 0), (2, 84, 0), (2, 122, 0), (2, 100, 0), (2, 132, 0), (11, 2147483648, 2147483668), (11, 2147483648, 2147485248), (1, 0, 4294967296), (11, 0, 4294967295), (11, 2147483648, 2147485248), (2, 93, 0), (2, 104, 0), (11, 2147483648, 2147483678), (2, 89, 0), (2, 92, 0), (2, 119, 0), (2, 90, 0), (2, 94, 0), (2, 103, 0), (1, 3, 4294967296), (11, 0, 4294967295), (11, 0, 4294967295), (11, 2147483648, 2147485249), (11, 2147483648, 2147483653), (11, 2147483648, 2147483668), (2, 85, 0), (11, 2147483648, 2147493647), (5, 0, 0), (2, 95, 0), (2, 96, 0), (2, 97, 0), (2, 98, 0), (2, 99, 0), (2, 101, 0), (2, 102, 0), (2, 105, 0), (2, 106, 0), (2, 107, 0), (2, 108, 0), (2, 109, 0), (2, 110, 0), (2, 111, 0), (11, 2147483648, 2147484768), (11, 2147482048, 2147483655), (11, 2147483648, 2147483738), (11, 2147483648, 2147483678), (11, 0, 4294967295), (11, 0, 4294967295), (11, 0, 4294967295), (11, 0, 4294967295), (11, 0, 4294967295), (2, 113, 0), (2, 116, 0), (2, 117, 0), (2, 121, 0), (11, 0, 4294967295), (11, 0, 4294967295), (2, 124, 0), (2, 125, 0), (11, 0, 4294967295), (2, 126, 0), (2, 127, 0), (2, 128, 0), (2, 129, 0), (2, 130, 0)])
def bn541 : e2_Q1 := (bc167, bc3)
def bn542 : e2_Q2 := (bn197, bn541)
def bn543 : e2_Q3 := (bn542, bn447)
def bn544 : e2_Q4 := (bn196, bn543)
def bn545 : e2_Q5 := (bn544, bn219)
def bn546 : e2_Q6 := (bn545, bn251)
def bn547 : e2_Q7 := (bn504, bn546)
def bn548 : e2_Q8 := (bn477, bn547)
noncomputable def h_b85_5 : ev_H := (bn548 : e2_Q8)
def bc168 : ev_C := (10, [(0, 0, 0), (2, 88, 0), (2, 115, 0), (2, 114, 0), (2, 86, 0), (2, 112, 0), (1, 2, 4294967296), (2, 118, 0), (2, 120, 0), (2, 131, 0), (2, 91, 0), (11, 2147483648, 2147483654), (2, 123, 0), (11, 2147483648, 2147483649), (11, 2147483648, 2147485248), (2, 87, 0), (2, 84, 0), (2, 122, 0), (2, 100, 0), (2, 132, 0), (11, 2147483648, 2147483668), (11, 2147483648, 2147485248), (1, 0, 4294967296), (11, 0, 4294967295), (11, 2147483648, 2147485248), (2, 93, 0), (2, 104, 0), (11, 2147483648, 2147483678), (2, 89, 0), (2, 92, 0), (2, 119, 0), (2, 90, 0), (2, 94, 0), (2, 103, 0), (1, 3, 4294967296), (11, 0, 4294967295), (11, 0, 4294967295), (11, 2147483648, 2147485249), (11, 2147483648, 2147483653), (11, 2147483648, 2147483668), (2, 85, 0), (11, 2147483648, 2147493647), (5, 0, 0), (2, 95, 0), (2, 96, 0), (2, 97, 0), (2, 98, 0), (2, 99, 0), (2, 101, 0), (2, 102, 0), (2, 105, 0), (2, 106, 0), (2, 107, 0), (2, 108, 0), (2, 109, 0), (2, 110, 0), (2, 111, 0), (11, 2147483648, 2147484768), (11, 2147482048, 2147483655), (11, 2147483648, 2147483738), (11, 2147483648, 2147483678), (11, 0, 4294967295), (11, 0, 4294967295), (11, 0, 4294967295), (11, 0, 4294967295), (11, 0, 4294967295), (2, 113, 0), (2, 116, 0), (2, 117, 0), (2, 121, 0), (11, 0, 4294967295), (11, 0, 4294967295), (2, 124, 0), (2, 125, 0), (11, 0, 4294967295), (2, 126, 0), (2, 127, 0), (2, 128, 0), (2, 129, 0), (2, 130, 0)])
def bn549 : e2_Q1 := (bc168, bc3)
def bn550 : e2_Q2 := (bn197, bn549)
def bn551 : e2_Q3 := (bn550, bn447)
def bn552 : e2_Q4 := (bn196, bn551)
def bn553 : e2_Q5 := (bn552, bn219)
def bn554 : e2_Q6 := (bn553, bn251)
def bn555 : e2_Q7 := (bn504, bn554)
def bn556 : e2_Q8 := (bn477, bn555)
noncomputable def h_b85_6 : ev_H := (bn556 : e2_Q8)
def bc169 : ev_C := (10, [(0, 0, 0), (2, 88, 0), (2, 115, 0), (2, 114, 0), (2, 86, 0), (2, 112, 0), (1, 2, 4294967296), (2, 118, 0), (2, 120, 0), (2, 131, 0), (2, 91, 0), (11, 2147483648, 2147483655), (2, 123, 0), (11, 2147483648, 2147483649), (11, 2147483648, 2147485248), (2, 87, 0), (2, 84, 0), (2, 122, 0), (2, 100, 0), (2, 132, 0), (11, 2147483648, 2147483668), (11, 2147483648, 2147485248), (1, 0, 4294967296), (11, 0, 4294967295), (11, 2147483648, 2147485248), (2, 93, 0), (2, 104, 0), (11, 2147483648, 2147483678), (2, 89, 0), (2, 92, 0), (2, 119, 0), (2, 90, 0), (2, 94, 0), (2, 103, 0), (1, 3, 4294967296), (11, 0, 4294967295), (11, 0, 4294967295), (11, 2147483648, 2147485249), (11, 2147483648, 2147483653), (11, 2147483648, 2147483668), (2, 85, 0), (11, 2147483648, 2147493647), (5, 0, 0), (2, 95, 0), (2, 96, 0), (2, 97, 0), (2, 98, 0), (2, 99, 0), (2, 101, 0), (2, 102, 0), (2, 105, 0), (2, 106, 0), (2, 107, 0), (2, 108, 0), (2, 109, 0), (2, 110, 0), (2, 111, 0), (11, 2147483648, 2147484768), (11, 2147482048, 2147483655), (11, 2147483648, 2147483738), (11, 2147483648, 2147483678), (11, 0, 4294967295), (11, 0, 4294967295), (11, 0, 4294967295), (11, 0, 4294967295), (11, 0, 4294967295), (2, 113, 0), (2, 116, 0), (2, 117, 0), (2, 121, 0), (11, 0, 4294967295), (11, 0, 4294967295), (2, 124, 0), (2, 125, 0), (11, 0, 4294967295), (2, 126, 0), (2, 127, 0), (2, 128, 0), (2, 129, 0), (2, 130, 0)])
def bn557 : e2_Q1 := (bc169, bc3)
def bn558 : e2_Q2 := (bn197, bn557)
def bn559 : e2_Q3 := (bn558, bn447)
def bn560 : e2_Q4 := (bn196, bn559)
def bn561 : e2_Q5 := (bn560, bn219)
def bn562 : e2_Q6 := (bn561, bn251)
def bn563 : e2_Q7 := (bn504, bn562)
def bn564 : e2_Q8 := (bn477, bn563)
noncomputable def h_b85_7 : ev_H := (bn564 : e2_Q8)
def bc170 : ev_C := (10, [(0, 0, 0), (2, 88, 0), (2, 115, 0), (2, 114, 0), (2, 86, 0), (2, 112, 0), (1, 2, 4294967296), (2, 118, 0), (2, 120, 0), (2, 131, 0), (2, 91, 0), (11, 2147483648, 2147483656), (2, 123, 0), (11, 2147483648, 2147483649), (11, 2147483648, 2147485248), (2, 87, 0), (2, 84, 0), (2, 122, 0), (2, 100, 0), (2, 132, 0), (11, 2147483648, 2147483668), (11, 2147483648, 2147485248), (1, 0, 4294967296), (11, 0, 4294967295), (11, 2147483648, 2147485248), (2, 93, 0), (2, 104, 0), (11, 2147483648, 2147483678), (2, 89, 0), (2, 92, 0), (2, 119, 0), (2, 90, 0), (2, 94, 0), (2, 103, 0), (1, 3, 4294967296), (11, 0, 4294967295), (11, 0, 4294967295), (11, 2147483648, 2147485249), (11, 2147483648, 2147483653), (11, 2147483648, 2147483668), (2, 85, 0), (11, 2147483648, 2147493647), (5, 0, 0), (2, 95, 0), (2, 96, 0), (2, 97, 0), (2, 98, 0), (2, 99, 0), (2, 101, 0), (2, 102, 0), (2, 105, 0), (2, 106, 0), (2, 107, 0), (2, 108, 0), (2, 109, 0), (2, 110, 0), (2, 111, 0), (11, 2147483648, 2147484768), (11, 2147482048, 2147483655), (11, 2147483648, 2147483738), (11, 2147483648, 2147483678), (11, 0, 4294967295), (11, 0, 4294967295), (11, 0, 4294967295), (11, 0, 4294967295), (11, 0, 4294967295), (2, 113, 0), (2, 116, 0), (2, 117, 0), (2, 121, 0), (11, 0, 4294967295), (11, 0, 4294967295), (2, 124, 0), (2, 125, 0), (11, 0, 4294967295), (2, 126, 0), (2, 127, 0), (2, 128, 0), (2, 129, 0), (2, 130, 0)])
def bn565 : e2_Q1 := (bc170, bc3)
def bn566 : e2_Q2 := (bn197, bn565)
def bn567 : e2_Q3 := (bn566, bn447)
def bn568 : e2_Q4 := (bn196, bn567)
def bn569 : e2_Q5 := (bn568, bn219)
def bn570 : e2_Q6 := (bn569, bn251)
def bn571 : e2_Q7 := (bn504, bn570)
def bn572 : e2_Q8 := (bn477, bn571)
noncomputable def h_b85_8 : ev_H := (bn572 : e2_Q8)
def bc171 : ev_C := (10, [(0, 0, 0), (2, 88, 0), (2, 115, 0), (2, 114, 0), (2, 86, 0), (2, 112, 0), (1, 2, 4294967296), (2, 118, 0), (2, 120, 0), (2, 131, 0), (2, 91, 0), (11, 2147483648, 2147483657), (2, 123, 0), (11, 2147483648, 2147483649), (11, 2147483648, 2147485248), (2, 87, 0), (2, 84, 0), (2, 122, 0), (2, 100, 0), (2, 132, 0), (11, 2147483648, 2147483668), (11, 2147483648, 2147485248), (1, 0, 4294967296), (11, 0, 4294967295), (11, 2147483648, 2147485248), (2, 93, 0), (2, 104, 0), (11, 2147483648, 2147483678), (2, 89, 0), (2, 92, 0), (2, 119, 0), (2, 90, 0), (2, 94, 0), (2, 103, 0), (1, 3, 4294967296), (11, 0, 4294967295), (11, 0, 4294967295), (11, 2147483648, 2147485249), (11, 2147483648, 2147483653), (11, 2147483648, 2147483668), (2, 85, 0), (11, 2147483648, 2147493647), (5, 0, 0), (2, 95, 0), (2, 96, 0), (2, 97, 0), (2, 98, 0), (2, 99, 0), (2, 101, 0), (2, 102, 0), (2, 105, 0), (2, 106, 0), (2, 107, 0), (2, 108, 0), (2, 109, 0), (2, 110, 0), (2, 111, 0), (11, 2147483648, 2147484768), (11, 2147482048, 2147483655), (11, 2147483648, 2147483738), (11, 2147483648, 2147483678), (11, 0, 4294967295), (11, 0, 4294967295), (11, 0, 4294967295), (11, 0, 4294967295), (11, 0, 4294967295), (2, 113, 0), (2, 116, 0), (2, 117, 0), (2, 121, 0), (11, 0, 4294967295), (11, 0, 4294967295), (2, 124, 0), (2, 125, 0), (11, 0, 4294967295), (2, 126, 0), (2, 127, 0), (2, 128, 0), (2, 129, 0), (2, 130, 0)])
def bn573 : e2_Q1 := (bc171, bc3)
def bn574 : e2_Q2 := (bn197, bn573)
def bn575 : e2_Q3 := (bn574, bn447)
def bn576 : e2_Q4 := (bn196, bn575)
def bn577 : e2_Q5 := (bn576, bn219)
def bn578 : e2_Q6 := (bn577, bn251)
def bn579 : e2_Q7 := (bn504, bn578)
def bn580 : e2_Q8 := (bn477, bn579)
noncomputable def h_b85_9 : ev_H := (bn580 : e2_Q8)
def bc172 : ev_C := (10, [(0, 0, 0), (2, 88, 0), (2, 115, 0), (2, 114, 0), (2, 86, 0), (2, 112, 0), (1, 2, 4294967296), (2, 118, 0), (2, 120, 0), (2, 131, 0), (2, 91, 0), (11, 2147483648, 2147483658), (2, 123, 0), (11, 2147483648, 2147483649), (11, 2147483648, 2147485248), (2, 87, 0), (2, 84, 0), (2, 122, 0), (2, 100, 0), (2, 132, 0), (11, 2147483648, 2147483668), (11, 2147483648, 2147485248), (1, 0, 4294967296), (11, 0, 4294967295), (11, 2147483648, 2147485248), (2, 93, 0), (2, 104, 0), (11, 2147483648, 2147483678), (2, 89, 0), (2, 92, 0), (2, 119, 0), (2, 90, 0), (2, 94, 0), (2, 103, 0), (1, 3, 4294967296), (11, 0, 4294967295), (11, 0, 4294967295), (11, 2147483648, 2147485249), (11, 2147483648, 2147483653), (11, 2147483648, 2147483668), (2, 85, 0), (11, 2147483648, 2147493647), (5, 0, 0), (2, 95, 0), (2, 96, 0), (2, 97, 0), (2, 98, 0), (2, 99, 0), (2, 101, 0), (2, 102, 0), (2, 105, 0), (2, 106, 0), (2, 107, 0), (2, 108, 0), (2, 109, 0), (2, 110, 0), (2, 111, 0), (11, 2147483648, 2147484768), (11, 2147482048, 2147483655), (11, 2147483648, 2147483738), (11, 2147483648, 2147483678), (11, 0, 4294967295), (11, 0, 4294967295), (11, 0, 4294967295), (11, 0, 4294967295), (11, 0, 4294967295), (2, 113, 0), (2, 116, 0), (2, 117, 0), (2, 121, 0), (11, 0, 4294967295), (11, 0, 4294967295), (2, 124, 0), (2, 125, 0), (11, 0, 4294967295), (2, 126, 0), (2, 127, 0), (2, 128, 0), (2, 129, 0), (2, 130, 0)])
def bn581 : e2_Q1 := (bc172, bc3)
def bn582 : e2_Q2 := (bn197, bn581)
def bn583 : e2_Q3 := (bn582, bn447)
def bn584 : e2_Q4 := (bn196, bn583)
def bn585 : e2_Q5 := (bn584, bn219)
def bn586 : e2_Q6 := (bn585, bn251)
def bn587 : e2_Q7 := (bn504, bn586)
def bn588 : e2_Q8 := (bn477, bn587)
noncomputable def h_b85_10 : ev_H := (bn588 : e2_Q8)
def bc173 : ev_C := (10, [(0, 0, 0), (2, 88, 0), (2, 115, 0), (2, 114, 0), (2, 86, 0), (2, 112, 0), (1, 2, 4294967296), (2, 118, 0), (2, 120, 0), (2, 131, 0), (2, 91, 0), (11, 2147483648, 2147483659), (2, 123, 0), (11, 2147483648, 2147483649), (11, 2147483648, 2147485248), (2, 87, 0), (2, 84, 0), (2, 122, 0), (2, 100, 0), (2, 132, 0), (11, 2147483648, 2147483668), (11, 2147483648, 2147485248), (1, 0, 4294967296), (11, 0, 4294967295), (11, 2147483648, 2147485248), (2, 93, 0), (2, 104, 0), (11, 2147483648, 2147483678), (2, 89, 0), (2, 92, 0), (2, 119, 0), (2, 90, 0), (2, 94, 0), (2, 103, 0), (1, 3, 4294967296), (11, 0, 4294967295), (11, 0, 4294967295), (11, 2147483648, 2147485249), (11, 2147483648, 2147483653), (11, 2147483648, 2147483668), (2, 85, 0), (11, 2147483648, 2147493647), (5, 0, 0), (2, 95, 0), (2, 96, 0), (2, 97, 0), (2, 98, 0), (2, 99, 0), (2, 101, 0), (2, 102, 0), (2, 105, 0), (2, 106, 0), (2, 107, 0), (2, 108, 0), (2, 109, 0), (2, 110, 0), (2, 111, 0), (11, 2147483648, 2147484768), (11, 2147482048, 2147483655), (11, 2147483648, 2147483738), (11, 2147483648, 2147483678), (11, 0, 4294967295), (11, 0, 4294967295), (11, 0, 4294967295), (11, 0, 4294967295), (11, 0, 4294967295), (2, 113, 0), (2, 116, 0), (2, 117, 0), (2, 121, 0), (11, 0, 4294967295), (11, 0, 4294967295), (2, 124, 0), (2, 125, 0), (11, 0, 4294967295), (2, 126, 0), (2, 127, 0), (2, 128, 0), (2, 129, 0), (2, 130, 0)])
def bn589 : e2_Q1 := (bc173, bc3)
def bn590 : e2_Q2 := (bn197, bn589)
def bn591 : e2_Q3 := (bn590, bn447)
def bn592 : e2_Q4 := (bn196, bn591)
def bn593 : e2_Q5 := (bn592, bn219)
def bn594 : e2_Q6 := (bn593, bn251)
def bn595 : e2_Q7 := (bn504, bn594)
def bn596 : e2_Q8 := (bn477, bn595)
noncomputable def h_b85_11 : ev_H := (bn596 : e2_Q8)
def bc174 : ev_C := (10, [(0, 0, 0), (2, 88, 0), (2, 115, 0), (2, 114, 0), (2, 86, 0), (2, 112, 0), (1, 2, 4294967296), (2, 118, 0), (2, 120, 0), (2, 131, 0), (2, 91, 0), (11, 2147483648, 2147483660), (2, 123, 0), (11, 2147483648, 2147483649), (11, 2147483648, 2147485248), (2, 87, 0), (2, 84, 0), (2, 122, 0), (2, 100, 0), (2, 132, 0), (11, 2147483648, 2147483668), (11, 2147483648, 2147485248), (1, 0, 4294967296), (11, 0, 4294967295), (11, 2147483648, 2147485248), (2, 93, 0), (2, 104, 0), (11, 2147483648, 2147483678), (2, 89, 0), (2, 92, 0), (2, 119, 0), (2, 90, 0), (2, 94, 0), (2, 103, 0), (1, 3, 4294967296), (11, 0, 4294967295), (11, 0, 4294967295), (11, 2147483648, 2147485249), (11, 2147483648, 2147483653), (11, 2147483648, 2147483668), (2, 85, 0), (11, 2147483648, 2147493647), (5, 0, 0), (2, 95, 0), (2, 96, 0), (2, 97, 0), (2, 98, 0), (2, 99, 0), (2, 101, 0), (2, 102, 0), (2, 105, 0), (2, 106, 0), (2, 107, 0), (2, 108, 0), (2, 109, 0), (2, 110, 0), (2, 111, 0), (11, 2147483648, 2147484768), (11, 2147482048, 2147483655), (11, 2147483648, 2147483738), (11, 2147483648, 2147483678), (11, 0, 4294967295), (11, 0, 4294967295), (11, 0, 4294967295), (11, 0, 4294967295), (11, 0, 4294967295), (2, 113, 0), (2, 116, 0), (2, 117, 0), (2, 121, 0), (11, 0, 4294967295), (11, 0, 4294967295), (2, 124, 0), (2, 125, 0), (11, 0, 4294967295), (2, 126, 0), (2, 127, 0), (2, 128, 0), (2, 129, 0), (2, 130, 0)])
def bn597 : e2_Q1 := (bc174, bc3)
def bn598 : e2_Q2 := (bn197, bn597)
def bn599 : e2_Q3 := (bn598, bn447)
def bn600 : e2_Q4 := (bn196, bn599)
def bn601 : e2_Q5 := (bn600, bn219)
def bn602 : e2_Q6 := (bn601, bn251)
def bn603 : e2_Q7 := (bn504, bn602)
def bn604 : e2_Q8 := (bn477, bn603)
noncomputable def h_b85_12 : ev_H := (bn604 : e2_Q8)
def bc175 : ev_C := (10, [(0, 0, 0), (2, 88, 0), (2, 115, 0), (2, 114, 0), (2, 86, 0), (2, 112, 0), (1, 2, 4294967296), (2, 118, 0), (2, 120, 0), (2, 131, 0), (2, 91, 0), (11, 2147483648, 2147483661), (2, 123, 0), (11, 2147483648, 2147483649), (11, 2147483648, 2147485248), (2, 87, 0), (2, 84, 0), (2, 122, 0), (2, 100, 0), (2, 132, 0), (11, 2147483648, 2147483668), (11, 2147483648, 2147485248), (1, 0, 4294967296), (11, 0, 4294967295), (11, 2147483648, 2147485248), (2, 93, 0), (2, 104, 0), (11, 2147483648, 2147483678), (2, 89, 0), (2, 92, 0), (2, 119, 0), (2, 90, 0), (2, 94, 0), (2, 103, 0), (1, 3, 4294967296), (11, 0, 4294967295), (11, 0, 4294967295), (11, 2147483648, 2147485249), (11, 2147483648, 2147483653), (11, 2147483648, 2147483668), (2, 85, 0), (11, 2147483648, 2147493647), (5, 0, 0), (2, 95, 0), (2, 96, 0), (2, 97, 0), (2, 98, 0), (2, 99, 0), (2, 101, 0), (2, 102, 0), (2, 105, 0), (2, 106, 0), (2, 107, 0), (2, 108, 0), (2, 109, 0), (2, 110, 0), (2, 111, 0), (11, 2147483648, 2147484768), (11, 2147482048, 2147483655), (11, 2147483648, 2147483738), (11, 2147483648, 2147483678), (11, 0, 4294967295), (11, 0, 4294967295), (11, 0, 4294967295), (11, 0, 4294967295), (11, 0, 4294967295), (2, 113, 0), (2, 116, 0), (2, 117, 0), (2, 121, 0), (11, 0, 4294967295), (11, 0, 4294967295), (2, 124, 0), (2, 125, 0), (11, 0, 4294967295), (2, 126, 0), (2, 127, 0), (2, 128, 0), (2, 129, 0), (2, 130, 0)])
def bn605 : e2_Q1 := (bc175, bc3)
def bn606 : e2_Q2 := (bn197, bn605)
def bn607 : e2_Q3 := (bn606, bn447)
def bn608 : e2_Q4 := (bn196, bn607)
def bn609 : e2_Q5 := (bn608, bn219)
def bn610 : e2_Q6 := (bn609, bn251)
def bn611 : e2_Q7 := (bn504, bn610)
def bn612 : e2_Q8 := (bn477, bn611)
noncomputable def h_b85_13 : ev_H := (bn612 : e2_Q8)
def bc176 : ev_C := (10, [(0, 0, 0), (2, 88, 0), (2, 115, 0), (2, 114, 0), (2, 86, 0), (2, 112, 0), (1, 2, 4294967296), (2, 118, 0), (2, 120, 0), (2, 131, 0), (2, 91, 0), (11, 2147483648, 2147483662), (2, 123, 0), (11, 2147483648, 2147483649), (11, 2147483648, 2147485248), (2, 87, 0), (2, 84, 0), (2, 122, 0), (2, 100, 0), (2, 132, 0), (11, 2147483648, 2147483668), (11, 2147483648, 2147485248), (1, 0, 4294967296), (11, 0, 4294967295), (11, 2147483648, 2147485248), (2, 93, 0), (2, 104, 0), (11, 2147483648, 2147483678), (2, 89, 0), (2, 92, 0), (2, 119, 0), (2, 90, 0), (2, 94, 0), (2, 103, 0), (1, 3, 4294967296), (11, 0, 4294967295), (11, 0, 4294967295), (11, 2147483648, 2147485249), (11, 2147483648, 2147483653), (11, 2147483648, 2147483668), (2, 85, 0), (11, 2147483648, 2147493647), (5, 0, 0), (2, 95, 0), (2, 96, 0), (2, 97, 0), (2, 98, 0), (2, 99, 0), (2, 101, 0), (2, 102, 0), (2, 105, 0), (2, 106, 0), (2, 107, 0), (2, 108, 0), (2, 109, 0), (2, 110, 0), (2, 111, 0), (11, 2147483648, 2147484768), (11, 2147482048, 2147483655), (11, 2147483648, 2147483738), (11, 2147483648, 2147483678), (11, 0, 4294967295), (11, 0, 4294967295), (11, 0, 4294967295), (11, 0, 4294967295), (11, 0, 4294967295), (2, 113, 0), (2, 116, 0), (2, 117, 0), (2, 121, 0), (11, 0, 4294967295), (11, 0, 4294967295), (2, 124, 0), (2, 125, 0), (11, 0, 4294967295), (2, 126, 0), (2, 127, 0), (2, 128, 0), (2, 129, 0), (2, 130, 0)])
def bn613 : e2_Q1 := (bc176, bc3)
def bn614 : e2_Q2 := (bn197, bn613)
def bn615 : e2_Q3 := (bn614, bn447)
def bn616 : e2_Q4 := (bn196, bn615)
def bn617 : e2_Q5 := (bn616, bn219)
def bn618 : e2_Q6 := (bn617, bn251)
def bn619 : e2_Q7 := (bn504, bn618)
def bn620 : e2_Q8 := (bn477, bn619)
noncomputable def h_b85_14 : ev_H := (bn620 : e2_Q8)
def bc177 : ev_C := (10, [(0, 0, 0), (2, 88, 0), (2, 115, 0), (2, 114, 0), (2, 86, 0), (2, 112, 0), (1, 2, 4294967296), (2, 118, 0), (2, 120, 0), (2, 131, 0), (2, 91, 0), (11, 2147483648, 2147483663), (2, 123, 0), (11, 2147483648, 2147483649), (11, 2147483648, 2147485248), (2, 87, 0), (2, 84, 0), (2, 122, 0), (2, 100, 0), (2, 132, 0), (11, 2147483648, 2147483668), (11, 2147483648, 2147485248), (1, 0, 4294967296), (11, 0, 4294967295), (11, 2147483648, 2147485248), (2, 93, 0), (2, 104, 0), (11, 2147483648, 2147483678), (2, 89, 0), (2, 92, 0), (2, 119, 0), (2, 90, 0), (2, 94, 0), (2, 103, 0), (1, 3, 4294967296), (11, 0, 4294967295), (11, 0, 4294967295), (11, 2147483648, 2147485249), (11, 2147483648, 2147483653), (11, 2147483648, 2147483668), (2, 85, 0), (11, 2147483648, 2147493647), (5, 0, 0), (2, 95, 0), (2, 96, 0), (2, 97, 0), (2, 98, 0), (2, 99, 0), (2, 101, 0), (2, 102, 0), (2, 105, 0), (2, 106, 0), (2, 107, 0), (2, 108, 0), (2, 109, 0), (2, 110, 0), (2, 111, 0), (11, 2147483648, 2147484768), (11, 2147482048, 2147483655), (11, 2147483648, 2147483738), (11, 2147483648, 2147483678), (11, 0, 4294967295), (11, 0, 4294967295), (11, 0, 4294967295), (11, 0, 4294967295), (11, 0, 4294967295), (2, 113, 0), (2, 116, 0), (2, 117, 0), (2, 121, 0), (11, 0, 4294967295), (11, 0, 4294967295), (2, 124, 0), (2, 125, 0), (11, 0, 4294967295), (2, 126, 0), (2, 127, 0), (2, 128, 0), (2, 129, 0), (2, 130, 0)])
def bn621 : e2_Q1 := (bc177, bc3)
def bn622 : e2_Q2 := (bn197, bn621)
def bn623 : e2_Q3 := (bn622, bn447)
def bn624 : e2_Q4 := (bn196, bn623)
def bn625 : e2_Q5 := (bn624, bn219)
def bn626 : e2_Q6 := (bn625, bn251)
def bn627 : e2_Q7 := (bn504, bn626)
def bn628 : e2_Q8 := (bn477, bn627)
noncomputable def h_b85_15 : ev_H := (bn628 : e2_Q8)
def bc178 : ev_C := (10, [(0, 0, 0), (2, 88, 0), (2, 115, 0), (2, 114, 0), (2, 86, 0), (2, 112, 0), (1, 2, 4294967296), (2, 118, 0), (2, 120, 0), (2, 131, 0), (2, 91, 0), (11, 2147483648, 2147483664), (2, 123, 0), (11, 2147483648, 2147483649), (11, 2147483648, 2147485248), (2, 87, 0), (2, 84, 0), (2, 122, 0), (2, 100, 0), (2, 132, 0), (11, 2147483648, 2147483668), (11, 2147483648, 2147485248), (1, 0, 4294967296), (11, 0, 4294967295), (11, 2147483648, 2147485248), (2, 93, 0), (2, 104, 0), (11, 2147483648, 2147483678), (2, 89, 0), (2, 92, 0), (2, 119, 0), (2, 90, 0), (2, 94, 0), (2, 103, 0), (1, 3, 4294967296), (11, 0, 4294967295), (11, 0, 4294967295), (11, 2147483648, 2147485249), (11, 2147483648, 2147483653), (11, 2147483648, 2147483668), (2, 85, 0), (11, 2147483648, 2147493647), (5, 0, 0), (2, 95, 0), (2, 96, 0), (2, 97, 0), (2, 98, 0), (2, 99, 0), (2, 101, 0), (2, 102, 0), (2, 105, 0), (2, 106, 0), (2, 107, 0), (2, 108, 0), (2, 109, 0), (2, 110, 0), (2, 111, 0), (11, 2147483648, 2147484768), (11, 2147482048, 2147483655), (11, 2147483648, 2147483738), (11, 2147483648, 2147483678), (11, 0, 4294967295), (11, 0, 4294967295), (11, 0, 4294967295), (11, 0, 4294967295), (11, 0, 4294967295), (2, 113, 0), (2, 116, 0), (2, 117, 0), (2, 121, 0), (11, 0, 4294967295), (11, 0, 4294967295), (2, 124, 0), (2, 125, 0), (11, 0, 4294967295), (2, 126, 0), (2, 127, 0), (2, 128, 0), (2, 129, 0), (2, 130, 0)])
def bn629 : e2_Q1 := (bc178, bc3)
def bn630 : e2_Q2 := (bn197, bn629)
def bn631 : e2_Q3 := (bn630, bn447)
def bn632 : e2_Q4 := (bn196, bn631)
def bn633 : e2_Q5 := (bn632, bn219)
def bn634 : e2_Q6 := (bn633, bn251)
def bn635 : e2_Q7 := (bn504, bn634)
def bn636 : e2_Q8 := (bn477, bn635)
noncomputable def h_b85_16 : ev_H := (bn636 : e2_Q8)
def bc179 : ev_C := (10, [(0, 0, 0), (2, 88, 0), (2, 115, 0), (2, 114, 0), (2, 86, 0), (2, 112, 0), (1, 2, 4294967296), (2, 118, 0), (2, 120, 0), (2, 131, 0), (2, 91, 0), (11, 2147483648, 2147483665), (2, 123, 0), (11, 2147483648, 2147483649), (11, 2147483648, 2147485248), (2, 87, 0), (2, 84, 0), (2, 122, 0), (2, 100, 0), (2, 132, 0), (11, 2147483648, 2147483668), (11, 2147483648, 2147485248), (1, 0, 4294967296), (11, 0, 4294967295), (11, 2147483648, 2147485248), (2, 93, 0), (2, 104, 0), (11, 2147483648, 2147483678), (2, 89, 0), (2, 92, 0), (2, 119, 0), (2, 90, 0), (2, 94, 0), (2, 103, 0), (1, 3, 4294967296), (11, 0, 4294967295), (11, 0, 4294967295), (11, 2147483648, 2147485249), (11, 2147483648, 2147483653), (11, 2147483648, 2147483668), (2, 85, 0), (11, 2147483648, 2147493647), (5, 0, 0), (2, 95, 0), (2, 96, 0), (2, 97, 0), (2, 98, 0), (2, 99, 0), (2, 101, 0), (2, 102, 0), (2, 105, 0), (2, 106, 0), (2, 107, 0), (2, 108, 0), (2, 109, 0), (2, 110, 0), (2, 111, 0), (11, 2147483648, 2147484768), (11, 2147482048, 2147483655), (11, 2147483648, 2147483738), (11, 2147483648, 2147483678), (11, 0, 4294967295), (11, 0, 4294967295), (11, 0, 4294967295), (11, 0, 4294967295), (11, 0, 4294967295), (2, 113, 0), (2, 116, 0), (2, 117, 0), (2, 121, 0), (11, 0, 4294967295), (11, 0, 4294967295), (2, 124, 0), (2, 125, 0), (11, 0, 4294967295), (2, 126, 0), (2, 127, 0), (2, 128, 0), (2, 129, 0), (2, 130, 0)])
def bn637 : e2_Q1 := (bc179, bc3)
def bn638 : e2_Q2 := (bn197, bn637)
def bn639 : e2_Q3 := (bn638, bn447)
def bn640 : e2_Q4 := (bn196, bn639)
def bn641 : e2_Q5 := (bn640, bn219)
def bn642 : e2_Q6 := (bn641, bn251)
def bn643 : e2_Q7 := (bn504, bn642)
def bn644 : e2_Q8 := (bn477, bn643)
noncomputable def h_b85_17 : ev_H := (bn644 : e2_Q8)
def bc180 : ev_C := (10, [(0, 0, 0), (2, 88, 0), (2, 115, 0), (2, 114, 0), (2, 86, 0), (2, 112, 0), (1, 2, 4294967296), (2, 118, 0), (2, 120, 0), (2, 131, 0), (2, 91, 0), (11, 2147483648, 2147483666), (2, 123, 0), (11, 2147483648, 2147483649), (11, 2147483648, 2147485248), (2, 87, 0), (2, 84, 0), (2, 122, 0), (2, 100, 0), (2, 132, 0), (11, 2147483648, 2147483668), (11, 2147483648, 2147485248), (1, 0, 4294967296), (11, 0, 4294967295), (11, 2147483648, 2147485248), (2, 93, 0), (2, 104, 0), (11, 2147483648, 2147483678), (2, 89, 0), (2, 92, 0), (2, 119, 0), (2, 90, 0), (2, 94, 0), (2, 103, 0), (1, 3, 4294967296), (11, 0, 4294967295), (11, 0, 4294967295), (11, 2147483648, 2147485249), (11, 2147483648, 2147483653), (11, 2147483648, 2147483668), (2, 85, 0), (11, 2147483648, 2147493647), (5, 0, 0), (2, 95, 0), (2, 96, 0), (2, 97, 0), (2, 98, 0), (2, 99, 0), (2, 101, 0), (2, 102, 0), (2, 105, 0), (2, 106, 0), (2, 107, 0), (2, 108, 0), (2, 109, 0), (2, 110, 0), (2, 111, 0), (11, 2147483648, 2147484768), (11, 2147482048, 2147483655), (11, 2147483648, 2147483738), (11, 2147483648, 2147483678), (11, 0, 4294967295), (11, 0, 4294967295), (11, 0, 4294967295), (11, 0, 4294967295), (11, 0, 4294967295), (2, 113, 0), (2, 116, 0), (2, 117, 0), (2, 121, 0), (11, 0, 4294967295), (11, 0, 4294967295), (2, 124, 0), (2, 125, 0), (11, 0, 4294967295), (2, 126, 0), (2, 127, 0), (2, 128, 0), (2, 129, 0), (2, 130, 0)])
def bn645 : e2_Q1 := (bc180, bc3)
def bn646 : e2_Q2 := (bn197, bn645)
def bn647 : e2_Q3 := (bn646, bn447)
def bn648 : e2_Q4 := (bn196, bn647)
def bn649 : e2_Q5 := (bn648, bn219)
def bn650 : e2_Q6 := (bn649, bn251)
def bn651 : e2_Q7 := (bn504, bn650)
def bn652 : e2_Q8 := (bn477, bn651)
noncomputable def h_b85_18 : ev_H := (bn652 : e2_Q8)
def bc181 : ev_C := (10, [(0, 0, 0), (2, 88, 0), (2, 115, 0), (2, 114, 0), (2, 86, 0), (2, 112, 0), (1, 2, 4294967296), (2, 118, 0), (2, 120, 0), (2, 131, 0), (2, 91, 0), (11, 2147483648, 2147483667), (2, 123, 0), (11, 2147483648, 2147483649), (11, 2147483648, 2147485248), (2, 87, 0), (2, 84, 0), (2, 122, 0), (2, 100, 0), (2, 132, 0), (11, 2147483648, 2147483668), (11, 2147483648, 2147485248), (1, 0, 4294967296), (11, 0, 4294967295), (11, 2147483648, 2147485248), (2, 93, 0), (2, 104, 0), (11, 2147483648, 2147483678), (2, 89, 0), (2, 92, 0), (2, 119, 0), (2, 90, 0), (2, 94, 0), (2, 103, 0), (1, 3, 4294967296), (11, 0, 4294967295), (11, 0, 4294967295), (11, 2147483648, 2147485249), (11, 2147483648, 2147483653), (11, 2147483648, 2147483668), (2, 85, 0), (11, 2147483648, 2147493647), (5, 0, 0), (2, 95, 0), (2, 96, 0), (2, 97, 0), (2, 98, 0), (2, 99, 0), (2, 101, 0), (2, 102, 0), (2, 105, 0), (2, 106, 0), (2, 107, 0), (2, 108, 0), (2, 109, 0), (2, 110, 0), (2, 111, 0), (11, 2147483648, 2147484768), (11, 2147482048, 2147483655), (11, 2147483648, 2147483738), (11, 2147483648, 2147483678), (11, 0, 4294967295), (11, 0, 4294967295), (11, 0, 4294967295), (11, 0, 4294967295), (11, 0, 4294967295), (2, 113, 0), (2, 116, 0), (2, 117, 0), (2, 121, 0), (11, 0, 4294967295), (11, 0, 4294967295), (2, 124, 0), (2, 125, 0), (11, 0, 4294967295), (2, 126, 0), (2, 127, 0), (2, 128, 0), (2, 129, 0), (2, 130, 0)])
def bn653 : e2_Q1 := (bc181, bc3)
def bn654 : e2_Q2 := (bn197, bn653)
def bn655 : e2_Q3 := (bn654, bn447)
def bn656 : e2_Q4 := (bn196, bn655)
def bn657 : e2_Q5 := (bn656, bn219)
def bn658 : e2_Q6 := (bn657, bn251)
def bn659 : e2_Q7 := (bn504, bn658)
def bn660 : e2_Q8 := (bn477, bn659)
noncomputable def h_b85_19 : ev_H := (bn660 : e2_Q8)
noncomputable def h_b85_20 : ev_H := (bn506 : e2_Q8)
def bc182 : ev_C := (10, [(0, 0, 0), (2, 88, 0), (2, 115, 0), (2, 114, 0), (2, 86, 0), (2, 112, 0), (1, 2, 4294967296), (2, 118, 0), (2, 120, 0), (2, 131, 0), (2, 91, 0), (11, 2147483649, 2147483668), (2, 123, 0), (11, 2147483648, 2147483649), (11, 2147483648, 2147485248), (2, 87, 0), (2, 84, 0), (2, 122, 0), (2, 100, 0), (2, 132, 0), (11, 2147483648, 2147483668), (11, 2147483648, 2147485248), (1, 0, 4294967296), (11, 0, 4294967295), (11, 2147483648, 2147485248), (2, 93, 0), (2, 104, 0), (11, 2147483648, 2147483678), (2, 89, 0), (2, 92, 0), (2, 119, 0), (2, 90, 0), (2, 94, 0), (2, 103, 0), (1, 3, 4294967296), (11, 0, 4294967295), (11, 0, 4294967295), (11, 2147483648, 2147485249), (11, 2147483648, 2147483653), (11, 2147483648, 2147483668), (2, 85, 0), (11, 2147483648, 2147493647), (5, 0, 0), (2, 95, 0), (2, 96, 0), (2, 97, 0), (2, 98, 0), (2, 99, 0), (2, 101, 0), (2, 102, 0), (2, 105, 0), (2, 106, 0), (2, 107, 0), (2, 108, 0), (2, 109, 0), (2, 110, 0), (2, 111, 0), (11, 2147483648, 2147484768), (11, 2147482048, 2147483655), (11, 2147483648, 2147483738), (11, 2147483648, 2147483678), (11, 0, 4294967295), (11, 0, 4294967295), (11, 0, 4294967295), (11, 0, 4294967295), (11, 0, 4294967295), (2, 113, 0), (2, 116, 0), (2, 117, 0), (2, 121, 0), (11, 0, 4294967295), (11, 0, 4294967295), (2, 124, 0), (2, 125, 0), (11, 0, 4294967295), (2, 126, 0), (2, 127, 0), (2, 128, 0), (2, 129, 0), (2, 130, 0)])
def bn661 : e2_Q1 := (bc182, bc3)
def bn662 : e2_Q2 := (bn197, bn661)
def bn663 : e2_Q3 := (bn662, bn447)
def bn664 : e2_Q4 := (bn196, bn663)
def bn665 : e2_Q5 := (bn664, bn219)
def bn666 : e2_Q6 := (bn665, bn251)
def bn667 : e2_Q7 := (bn504, bn666)
def bn668 : e2_Q8 := (bn477, bn667)
noncomputable def h_b85_21 : ev_H := (bn668 : e2_Q8)
noncomputable def h_b85_22 : ev_H := (bn668 : e2_Q8)
noncomputable def h_b85_23 : ev_H := (bn668 : e2_Q8)
noncomputable def h_b85_24 : ev_H := (bn668 : e2_Q8)
noncomputable def h_b85_25 : ev_H := (bn668 : e2_Q8)
noncomputable def cu_b85_120 : List e2_Cu := [([(2, 83, 0), (11, 0, 4294967295), (0, 0, 0), (0, 8, 0), (9, 0, 0)], [(2147483648, 2147583648, 0, 0), (2147483649, 2147483649, 1, 0), (2147483648, 2147483688, 2, 0), (2147483648, 2147483688, 3, 0)], h_b85_0),
  ([(2, 83, 0), (11, 0, 4294967295), (0, 1, 0), (11, 2147483648, 2147483656), (11, 2147483647, 2147483648)], [(2147483648, 2147583648, 0, 0), (2147483649, 2147483649, 1, 0), (2147483648, 2147483688, 2, 0), (2147483648, 2147483688, 3, 0)], h_b85_1),
  ([(2, 83, 0), (11, 0, 4294967295), (0, 2, 0), (11, 2147483648, 2147483656), (11, 2147483647, 2147483648)], [(2147483648, 2147583648, 0, 0), (2147483649, 2147483649, 1, 0), (2147483648, 2147483688, 2, 0), (2147483648, 2147483688, 3, 0)], h_b85_2),
  ([(2, 83, 0), (11, 0, 4294967295), (0, 3, 0), (11, 2147483648, 2147483656), (11, 2147483647, 2147483648)], [(2147483648, 2147583648, 0, 0), (2147483649, 2147483649, 1, 0), (2147483648, 2147483688, 2, 0), (2147483648, 2147483688, 3, 0)], h_b85_3),
  ([(2, 83, 0), (11, 0, 4294967295), (0, 4, 0), (11, 2147483648, 2147483656), (11, 2147483647, 2147483648)], [(2147483648, 2147583648, 0, 0), (2147483649, 2147483649, 1, 0), (2147483648, 2147483688, 2, 0), (2147483648, 2147483688, 3, 0)], h_b85_4),
  ([(2, 83, 0), (11, 0, 4294967295), (0, 5, 0), (11, 2147483648, 2147483656), (11, 2147483647, 2147483648)], [(2147483648, 2147583648, 0, 0), (2147483649, 2147483649, 1, 0), (2147483648, 2147483688, 2, 0), (2147483648, 2147483688, 3, 0)], h_b85_5),
  ([(2, 83, 0), (11, 0, 4294967295), (0, 6, 0), (11, 2147483648, 2147483656), (11, 2147483647, 2147483648)], [(2147483648, 2147583648, 0, 0), (2147483649, 2147483649, 1, 0), (2147483648, 2147483688, 2, 0), (2147483648, 2147483688, 3, 0)], h_b85_6),
  ([(2, 83, 0), (11, 0, 4294967295), (0, 7, 0), (11, 2147483648, 2147483656), (11, 2147483647, 2147483648)], [(2147483648, 2147583648, 0, 0), (2147483649, 2147483649, 1, 0), (2147483648, 2147483688, 2, 0), (2147483648, 2147483688, 3, 0)], h_b85_7),
  ([(2, 83, 0), (11, 0, 4294967295), (0, 8, 0), (11, 2147483648, 2147483656), (11, 2147483647, 2147483648)], [(2147483648, 2147583648, 0, 0), (2147483649, 2147483649, 1, 0), (2147483648, 2147483688, 2, 0), (2147483648, 2147483688, 3, 0)], h_b85_8),
  ([(2, 83, 0), (11, 0, 4294967295), (0, 9, 0), (11, 2147483648, 2147483656), (11, 2147483647, 2147483648)], [(2147483648, 2147583648, 0, 0), (2147483649, 2147483649, 1, 0), (2147483648, 2147483688, 2, 0), (2147483648, 2147483688, 3, 0)], h_b85_9),
  ([(2, 83, 0), (11, 0, 4294967295), (0, 10, 0), (11, 2147483648, 2147483656), (11, 2147483647, 2147483648)], [(2147483648, 2147583648, 0, 0), (2147483649, 2147483649, 1, 0), (2147483648, 2147483688, 2, 0), (2147483648, 2147483688, 3, 0)], h_b85_10),
  ([(2, 83, 0), (11, 0, 4294967295), (0, 11, 0), (11, 2147483648, 2147483656), (11, 2147483647, 2147483648)], [(2147483648, 2147583648, 0, 0), (2147483649, 2147483649, 1, 0), (2147483648, 2147483688, 2, 0), (2147483648, 2147483688, 3, 0)], h_b85_11),
  ([(2, 83, 0), (11, 0, 4294967295), (0, 12, 0), (11, 2147483648, 2147483656), (11, 2147483647, 2147483648)], [(2147483648, 2147583648, 0, 0), (2147483649, 2147483649, 1, 0), (2147483648, 2147483688, 2, 0), (2147483648, 2147483688, 3, 0)], h_b85_12),
  ([(2, 83, 0), (11, 0, 4294967295), (0, 13, 0), (11, 2147483648, 2147483656), (11, 2147483647, 2147483648)], [(2147483648, 2147583648, 0, 0), (2147483649, 2147483649, 1, 0), (2147483648, 2147483688, 2, 0), (2147483648, 2147483688, 3, 0)], h_b85_13),
  ([(2, 83, 0), (11, 0, 4294967295), (0, 14, 0), (11, 2147483648, 2147483656), (11, 2147483647, 2147483648)], [(2147483648, 2147583648, 0, 0), (2147483649, 2147483649, 1, 0), (2147483648, 2147483688, 2, 0), (2147483648, 2147483688, 3, 0)], h_b85_14),
  ([(2, 83, 0), (11, 0, 4294967295), (0, 15, 0), (11, 2147483648, 2147483656), (11, 2147483647, 2147483648)], [(2147483648, 2147583648, 0, 0), (2147483649, 2147483649, 1, 0), (2147483648, 2147483688, 2, 0), (2147483648, 2147483688, 3, 0)], h_b85_15),
  ([(2, 83, 0), (11, 0, 4294967295), (0, 16, 0), (11, 2147483648, 2147483656), (11, 2147483647, 2147483648)], [(2147483648, 2147583648, 0, 0), (2147483649, 2147483649, 1, 0), (2147483648, 2147483688, 2, 0), (2147483648, 2147483688, 3, 0)], h_b85_16),
  ([(2, 83, 0), (11, 0, 4294967295), (0, 17, 0), (11, 2147483648, 2147483656), (11, 2147483647, 2147483648)], [(2147483648, 2147583648, 0, 0), (2147483649, 2147483649, 1, 0), (2147483648, 2147483688, 2, 0), (2147483648, 2147483688, 3, 0)], h_b85_17),
  ([(2, 83, 0), (11, 0, 4294967295), (0, 18, 0), (11, 2147483648, 2147483656), (11, 2147483647, 2147483648)], [(2147483648, 2147583648, 0, 0), (2147483649, 2147483649, 1, 0), (2147483648, 2147483688, 2, 0), (2147483648, 2147483688, 3, 0)], h_b85_18),
  ([(2, 83, 0), (11, 0, 4294967295), (0, 19, 0), (11, 2147483648, 2147483656), (11, 2147483647, 2147483648)], [(2147483648, 2147583648, 0, 0), (2147483649, 2147483649, 1, 0), (2147483648, 2147483688, 2, 0), (2147483648, 2147483688, 3, 0)], h_b85_19),
  ([(2, 83, 0), (11, 0, 4294967295), (0, 20, 0), (11, 2147483648, 2147483656), (11, 2147483647, 2147483648)], [(2147483648, 2147583648, 0, 0), (2147483649, 2147483649, 1, 0), (2147483648, 2147483688, 2, 0), (2147483648, 2147483688, 3, 0)], h_b85_20),
  ([(2, 83, 0), (11, 0, 4294967295), (0, 21, 0), (0, 0, 0), (0, 0, 0)], [(2147483648, 2147583648, 0, 0), (2147483649, 2147483649, 1, 0), (2147483648, 2147483688, 2, 0), (2147483648, 2147483688, 3, 0)], h_b85_21),
  ([(2, 83, 0), (11, 0, 4294967295), (0, 22, 0), (0, 0, 0), (0, 0, 0)], [(2147483648, 2147583648, 0, 0), (2147483649, 2147483649, 1, 0), (2147483648, 2147483688, 2, 0), (2147483648, 2147483688, 3, 0)], h_b85_22),
  ([(2, 83, 0), (11, 0, 4294967295), (0, 23, 0), (0, 0, 0), (0, 0, 0)], [(2147483648, 2147583648, 0, 0), (2147483649, 2147483649, 1, 0), (2147483648, 2147483688, 2, 0), (2147483648, 2147483688, 3, 0)], h_b85_23),
  ([(2, 83, 0), (11, 0, 4294967295), (0, 24, 0), (0, 0, 0), (0, 0, 0)], [(2147483648, 2147583648, 0, 0), (2147483649, 2147483649, 1, 0), (2147483648, 2147483688, 2, 0), (2147483648, 2147483688, 3, 0)], h_b85_24),
  ([(2, 83, 0), (11, 0, 4294967295), (0, 25, 0), (0, 0, 0), (0, 0, 0)], [(2147483648, 2147583648, 0, 0), (2147483649, 2147483649, 1, 0), (2147483648, 2147483688, 2, 0), (2147483648, 2147483688, 3, 0)], h_b85_25)]
noncomputable def cl_b85_e : List (Nat × e2_S) := [(2, e2_cutL (al_b85_26.set 2 (11, 2147483648, 2147483657)) 4 (E_b85_26.take 4) h_b85_26)]
set_option maxRecDepth 1000000 in
theorem ck_b85_e : e2_run (e2_orG 231 83 11 4 2147483648 2147483668 as_b83 Eb_b83 f_b83 rs_b83 (e2_orG 231 83 11 4 2147483648 2147483668 as_b82 Eb_b82 f_b82 rs_b82 (e2_orG 231 83 11 4 2147483648 2147483668 as_b81 Eb_b81 f_b81 rs_b81 (e2_orG 231 83 11 4 2147483648 2147483668 as_b80 Eb_b80 f_b80 rs_b80 (e2_orG 231 83 11 4 2147483648 2147483668 as_b79 Eb_b79 f_b79 rs_b79 (e2_orG 231 83 11 4 2147483648 2147483668 as_b78 Eb_b78 f_b78 rs_b78 (e2_orG 231 83 11 4 2147483648 2147483668 as_b77 Eb_b77 f_b77 rs_b77 (e2_orG 231 83 11 4 2147483648 2147483668 as_b76 Eb_b76 f_b76 rs_b76 (e2_orG 231 83 11 4 2147483648 2147483668 as_b75 Eb_b75 f_b75 rs_b75 (e2_orG 231 83 11 4 2147483648 2147483668 as_b74 Eb_b74 f_b74 rs_b74 (e2_orG 231 83 11 4 2147483648 2147483668 as_b73 Eb_b73 f_b73 rs_b73 (e2_orG 231 83 11 4 2147483648 2147483668 as_b72 Eb_b72 f_b72 rs_b72 (e2_orG 231 83 11 4 2147483648 2147483668 as_b71 Eb_b71 f_b71 rs_b71 (e2_orG 231 83 11 4 2147483648 2147483668 as_b70 Eb_b70 f_b70 rs_b70 (e2_orG 231 83 11 4 2147483648 2147483668 as_b69 Eb_b69 f_b69 rs_b69 (e2_orG 231 83 11 4 2147483648 2147483668 as_b68 Eb_b68 f_b68 rs_b68 (e2_orG 231 83 11 4 2147483648 2147483668 as_b67 Eb_b67 f_b67 rs_b67 (e2_orG 231 83 11 4 2147483648 2147483668 as_b66 Eb_b66 f_b66 rs_b66 (e2_orG 231 83 11 4 2147483648 2147483668 as_b65 Eb_b65 f_b65 rs_b65 (e2_orG 231 83 11 4 2147483648 2147483668 as_b64 Eb_b64 f_b64 rs_b64 (e2_cal S_b85 I_b85 4000 1))))))))))))))))))))) (e2_fin rs_b85) e2x_230 (e2_bpL cl_b85_e) (e2_cutA cl_b85_e) 4000 (e2_seek e2x_230 0) (e2_al 5 as_b85) [] E_b85 f_b85 = true := by decide +kernel
noncomputable def cl_b85_26 : List (Nat × e2_S) := [(2, e2_cutL (al_b85_26.set 2 (13, 12, 2147483657)) 4 (E_b85_26.take 4) h_b85_26),
  (49, e2_cutL (al_b85_27.set 2 (11, 2147483647, 2147483667)) 4 (E_b85_27.take 4) h_b85_27)]
set_option maxRecDepth 1000000 in
theorem ck_b85_26 : e2_runM (e2_orG 231 83 11 4 2147483648 2147483668 as_b83 Eb_b83 f_b83 rs_b83 (e2_orG 231 83 11 4 2147483648 2147483668 as_b82 Eb_b82 f_b82 rs_b82 (e2_orG 231 83 11 4 2147483648 2147483668 as_b81 Eb_b81 f_b81 rs_b81 (e2_orG 231 83 11 4 2147483648 2147483668 as_b80 Eb_b80 f_b80 rs_b80 (e2_orG 231 83 11 4 2147483648 2147483668 as_b79 Eb_b79 f_b79 rs_b79 (e2_orG 231 83 11 4 2147483648 2147483668 as_b78 Eb_b78 f_b78 rs_b78 (e2_orG 231 83 11 4 2147483648 2147483668 as_b77 Eb_b77 f_b77 rs_b77 (e2_orG 231 83 11 4 2147483648 2147483668 as_b76 Eb_b76 f_b76 rs_b76 (e2_orG 231 83 11 4 2147483648 2147483668 as_b75 Eb_b75 f_b75 rs_b75 (e2_orG 231 83 11 4 2147483648 2147483668 as_b74 Eb_b74 f_b74 rs_b74 (e2_orG 231 83 11 4 2147483648 2147483668 as_b73 Eb_b73 f_b73 rs_b73 (e2_orG 231 83 11 4 2147483648 2147483668 as_b72 Eb_b72 f_b72 rs_b72 (e2_orG 231 83 11 4 2147483648 2147483668 as_b71 Eb_b71 f_b71 rs_b71 (e2_orG 231 83 11 4 2147483648 2147483668 as_b70 Eb_b70 f_b70 rs_b70 (e2_orG 231 83 11 4 2147483648 2147483668 as_b69 Eb_b69 f_b69 rs_b69 (e2_orG 231 83 11 4 2147483648 2147483668 as_b68 Eb_b68 f_b68 rs_b68 (e2_orG 231 83 11 4 2147483648 2147483668 as_b67 Eb_b67 f_b67 rs_b67 (e2_orG 231 83 11 4 2147483648 2147483668 as_b66 Eb_b66 f_b66 rs_b66 (e2_orG 231 83 11 4 2147483648 2147483668 as_b65 Eb_b65 f_b65 rs_b65 (e2_orG 231 83 11 4 2147483648 2147483668 as_b64 Eb_b64 f_b64 rs_b64 (e2_cal S_b85 I_b85 4000 1))))))))))))))))))))) (e2_fin rs_b85) e2x_230 (e2_bpL cl_b85_26) (e2_cutA cl_b85_26) 4000 (e2_seek e2x_230 2) al_b85_26 [] E_b85_26 h_b85_26 = true := by decide +kernel
set_option maxRecDepth 1000000 in
theorem ci_b85_26 : e2_idl 4 (al_b85_26.set 2 (9, 0, 0)) = true := by decide +kernel
set_option maxRecDepth 1000000 in
theorem cj_b85_26 : e2_idh 4 8 h_b85_26 = true := by decide +kernel
noncomputable def cl_b85_27 : List (Nat × e2_S) := [(120, e2_cutS cu_b85_120),
  (55, e2_cutL (al_b85_28.set 3 (11, 2147483648, 2147483657)) 5 (E_b85_28.take 5) h_b85_28)]
set_option maxRecDepth 1000000 in
theorem ck_b85_27 : e2_runM (e2_orG 231 83 11 4 2147483648 2147483668 as_b83 Eb_b83 f_b83 rs_b83 (e2_orG 231 83 11 4 2147483648 2147483668 as_b82 Eb_b82 f_b82 rs_b82 (e2_orG 231 83 11 4 2147483648 2147483668 as_b81 Eb_b81 f_b81 rs_b81 (e2_orG 231 83 11 4 2147483648 2147483668 as_b80 Eb_b80 f_b80 rs_b80 (e2_orG 231 83 11 4 2147483648 2147483668 as_b79 Eb_b79 f_b79 rs_b79 (e2_orG 231 83 11 4 2147483648 2147483668 as_b78 Eb_b78 f_b78 rs_b78 (e2_orG 231 83 11 4 2147483648 2147483668 as_b77 Eb_b77 f_b77 rs_b77 (e2_orG 231 83 11 4 2147483648 2147483668 as_b76 Eb_b76 f_b76 rs_b76 (e2_orG 231 83 11 4 2147483648 2147483668 as_b75 Eb_b75 f_b75 rs_b75 (e2_orG 231 83 11 4 2147483648 2147483668 as_b74 Eb_b74 f_b74 rs_b74 (e2_orG 231 83 11 4 2147483648 2147483668 as_b73 Eb_b73 f_b73 rs_b73 (e2_orG 231 83 11 4 2147483648 2147483668 as_b72 Eb_b72 f_b72 rs_b72 (e2_orG 231 83 11 4 2147483648 2147483668 as_b71 Eb_b71 f_b71 rs_b71 (e2_orG 231 83 11 4 2147483648 2147483668 as_b70 Eb_b70 f_b70 rs_b70 (e2_orG 231 83 11 4 2147483648 2147483668 as_b69 Eb_b69 f_b69 rs_b69 (e2_orG 231 83 11 4 2147483648 2147483668 as_b68 Eb_b68 f_b68 rs_b68 (e2_orG 231 83 11 4 2147483648 2147483668 as_b67 Eb_b67 f_b67 rs_b67 (e2_orG 231 83 11 4 2147483648 2147483668 as_b66 Eb_b66 f_b66 rs_b66 (e2_orG 231 83 11 4 2147483648 2147483668 as_b65 Eb_b65 f_b65 rs_b65 (e2_orG 231 83 11 4 2147483648 2147483668 as_b64 Eb_b64 f_b64 rs_b64 (e2_cal S_b85 I_b85 4000 1))))))))))))))))))))) (e2_fin rs_b85) e2x_230 (e2_bpL cl_b85_27) (e2_cutA cl_b85_27) 4000 (e2_seek e2x_230 49) al_b85_27 [] E_b85_27 h_b85_27 = true := by decide +kernel
set_option maxRecDepth 1000000 in
theorem ci_b85_27 : e2_idl 4 (al_b85_27.set 2 (9, 0, 0)) = true := by decide +kernel
set_option maxRecDepth 1000000 in
theorem cj_b85_27 : e2_idh 4 8 h_b85_27 = true := by decide +kernel
noncomputable def cl_b85_28 : List (Nat × e2_S) := [(49, e2_cutL (al_b85_27.set 2 (12, 12, 2147483647)) 4 (E_b85_27.take 4) h_b85_27),
  (55, e2_cutL (al_b85_28.set 3 (13, 13, 2147483657)) 5 (E_b85_28.take 5) h_b85_28)]
set_option maxRecDepth 1000000 in
theorem ck_b85_28 : e2_runM (e2_orG 231 83 11 4 2147483648 2147483668 as_b83 Eb_b83 f_b83 rs_b83 (e2_orG 231 83 11 4 2147483648 2147483668 as_b82 Eb_b82 f_b82 rs_b82 (e2_orG 231 83 11 4 2147483648 2147483668 as_b81 Eb_b81 f_b81 rs_b81 (e2_orG 231 83 11 4 2147483648 2147483668 as_b80 Eb_b80 f_b80 rs_b80 (e2_orG 231 83 11 4 2147483648 2147483668 as_b79 Eb_b79 f_b79 rs_b79 (e2_orG 231 83 11 4 2147483648 2147483668 as_b78 Eb_b78 f_b78 rs_b78 (e2_orG 231 83 11 4 2147483648 2147483668 as_b77 Eb_b77 f_b77 rs_b77 (e2_orG 231 83 11 4 2147483648 2147483668 as_b76 Eb_b76 f_b76 rs_b76 (e2_orG 231 83 11 4 2147483648 2147483668 as_b75 Eb_b75 f_b75 rs_b75 (e2_orG 231 83 11 4 2147483648 2147483668 as_b74 Eb_b74 f_b74 rs_b74 (e2_orG 231 83 11 4 2147483648 2147483668 as_b73 Eb_b73 f_b73 rs_b73 (e2_orG 231 83 11 4 2147483648 2147483668 as_b72 Eb_b72 f_b72 rs_b72 (e2_orG 231 83 11 4 2147483648 2147483668 as_b71 Eb_b71 f_b71 rs_b71 (e2_orG 231 83 11 4 2147483648 2147483668 as_b70 Eb_b70 f_b70 rs_b70 (e2_orG 231 83 11 4 2147483648 2147483668 as_b69 Eb_b69 f_b69 rs_b69 (e2_orG 231 83 11 4 2147483648 2147483668 as_b68 Eb_b68 f_b68 rs_b68 (e2_orG 231 83 11 4 2147483648 2147483668 as_b67 Eb_b67 f_b67 rs_b67 (e2_orG 231 83 11 4 2147483648 2147483668 as_b66 Eb_b66 f_b66 rs_b66 (e2_orG 231 83 11 4 2147483648 2147483668 as_b65 Eb_b65 f_b65 rs_b65 (e2_orG 231 83 11 4 2147483648 2147483668 as_b64 Eb_b64 f_b64 rs_b64 (e2_cal S_b85 I_b85 4000 1))))))))))))))))))))) (e2_fin rs_b85) e2x_230 (e2_bpL cl_b85_28) (e2_cutA cl_b85_28) 4000 (e2_seek e2x_230 55) al_b85_28 [] E_b85_28 h_b85_28 = true := by decide +kernel
set_option maxRecDepth 1000000 in
theorem ci_b85_28 : e2_idl 5 (al_b85_28.set 3 (9, 0, 0)) = true := by decide +kernel
set_option maxRecDepth 1000000 in
theorem cj_b85_28 : e2_idh 5 8 h_b85_28 = true := by decide +kernel
set_option maxRecDepth 1000000 in
theorem ck_b85_u120 : e2_cutsB (e2_orG 231 83 11 4 2147483648 2147483668 as_b83 Eb_b83 f_b83 rs_b83 (e2_orG 231 83 11 4 2147483648 2147483668 as_b82 Eb_b82 f_b82 rs_b82 (e2_orG 231 83 11 4 2147483648 2147483668 as_b81 Eb_b81 f_b81 rs_b81 (e2_orG 231 83 11 4 2147483648 2147483668 as_b80 Eb_b80 f_b80 rs_b80 (e2_orG 231 83 11 4 2147483648 2147483668 as_b79 Eb_b79 f_b79 rs_b79 (e2_orG 231 83 11 4 2147483648 2147483668 as_b78 Eb_b78 f_b78 rs_b78 (e2_orG 231 83 11 4 2147483648 2147483668 as_b77 Eb_b77 f_b77 rs_b77 (e2_orG 231 83 11 4 2147483648 2147483668 as_b76 Eb_b76 f_b76 rs_b76 (e2_orG 231 83 11 4 2147483648 2147483668 as_b75 Eb_b75 f_b75 rs_b75 (e2_orG 231 83 11 4 2147483648 2147483668 as_b74 Eb_b74 f_b74 rs_b74 (e2_orG 231 83 11 4 2147483648 2147483668 as_b73 Eb_b73 f_b73 rs_b73 (e2_orG 231 83 11 4 2147483648 2147483668 as_b72 Eb_b72 f_b72 rs_b72 (e2_orG 231 83 11 4 2147483648 2147483668 as_b71 Eb_b71 f_b71 rs_b71 (e2_orG 231 83 11 4 2147483648 2147483668 as_b70 Eb_b70 f_b70 rs_b70 (e2_orG 231 83 11 4 2147483648 2147483668 as_b69 Eb_b69 f_b69 rs_b69 (e2_orG 231 83 11 4 2147483648 2147483668 as_b68 Eb_b68 f_b68 rs_b68 (e2_orG 231 83 11 4 2147483648 2147483668 as_b67 Eb_b67 f_b67 rs_b67 (e2_orG 231 83 11 4 2147483648 2147483668 as_b66 Eb_b66 f_b66 rs_b66 (e2_orG 231 83 11 4 2147483648 2147483668 as_b65 Eb_b65 f_b65 rs_b65 (e2_orG 231 83 11 4 2147483648 2147483668 as_b64 Eb_b64 f_b64 rs_b64 (e2_cal S_b85 I_b85 4000 1))))))))))))))))))))) (e2_fin rs_b85) e2x_230 120 4000 cu_b85_120 = true := by decide +kernel
set_option maxRecDepth 1000000 in
theorem cs_b85 (hen : en_ok) (l : Launch) : e2_smOk l 5 s_b85 := by
  refine e2_conC (H := 4) (C := evd_230) (call := (e2_orG 231 83 11 4 2147483648 2147483668 as_b83 Eb_b83 f_b83 rs_b83 (e2_orG 231 83 11 4 2147483648 2147483668 as_b82 Eb_b82 f_b82 rs_b82 (e2_orG 231 83 11 4 2147483648 2147483668 as_b81 Eb_b81 f_b81 rs_b81 (e2_orG 231 83 11 4 2147483648 2147483668 as_b80 Eb_b80 f_b80 rs_b80 (e2_orG 231 83 11 4 2147483648 2147483668 as_b79 Eb_b79 f_b79 rs_b79 (e2_orG 231 83 11 4 2147483648 2147483668 as_b78 Eb_b78 f_b78 rs_b78 (e2_orG 231 83 11 4 2147483648 2147483668 as_b77 Eb_b77 f_b77 rs_b77 (e2_orG 231 83 11 4 2147483648 2147483668 as_b76 Eb_b76 f_b76 rs_b76 (e2_orG 231 83 11 4 2147483648 2147483668 as_b75 Eb_b75 f_b75 rs_b75 (e2_orG 231 83 11 4 2147483648 2147483668 as_b74 Eb_b74 f_b74 rs_b74 (e2_orG 231 83 11 4 2147483648 2147483668 as_b73 Eb_b73 f_b73 rs_b73 (e2_orG 231 83 11 4 2147483648 2147483668 as_b72 Eb_b72 f_b72 rs_b72 (e2_orG 231 83 11 4 2147483648 2147483668 as_b71 Eb_b71 f_b71 rs_b71 (e2_orG 231 83 11 4 2147483648 2147483668 as_b70 Eb_b70 f_b70 rs_b70 (e2_orG 231 83 11 4 2147483648 2147483668 as_b69 Eb_b69 f_b69 rs_b69 (e2_orG 231 83 11 4 2147483648 2147483668 as_b68 Eb_b68 f_b68 rs_b68 (e2_orG 231 83 11 4 2147483648 2147483668 as_b67 Eb_b67 f_b67 rs_b67 (e2_orG 231 83 11 4 2147483648 2147483668 as_b66 Eb_b66 f_b66 rs_b66 (e2_orG 231 83 11 4 2147483648 2147483668 as_b65 Eb_b65 f_b65 rs_b65 (e2_orG 231 83 11 4 2147483648 2147483668 as_b64 Eb_b64 f_b64 rs_b64 (e2_cal S_b85 I_b85 4000 1)))))))))))))))))))))) ei_230 (fun d hd => (e2_orG_ok (k0 := 231) (a := 83) (j := 11) (n := 4) (lo := 2147483648) (hi := 2147483668) (as0 := as_b83) (Eb := Eb_b83) (f := f_b83) (res := rs_b83) (e2_orG_ok (k0 := 231) (a := 83) (j := 11) (n := 4) (lo := 2147483648) (hi := 2147483668) (as0 := as_b82) (Eb := Eb_b82) (f := f_b82) (res := rs_b82) (e2_orG_ok (k0 := 231) (a := 83) (j := 11) (n := 4) (lo := 2147483648) (hi := 2147483668) (as0 := as_b81) (Eb := Eb_b81) (f := f_b81) (res := rs_b81) (e2_orG_ok (k0 := 231) (a := 83) (j := 11) (n := 4) (lo := 2147483648) (hi := 2147483668) (as0 := as_b80) (Eb := Eb_b80) (f := f_b80) (res := rs_b80) (e2_orG_ok (k0 := 231) (a := 83) (j := 11) (n := 4) (lo := 2147483648) (hi := 2147483668) (as0 := as_b79) (Eb := Eb_b79) (f := f_b79) (res := rs_b79) (e2_orG_ok (k0 := 231) (a := 83) (j := 11) (n := 4) (lo := 2147483648) (hi := 2147483668) (as0 := as_b78) (Eb := Eb_b78) (f := f_b78) (res := rs_b78) (e2_orG_ok (k0 := 231) (a := 83) (j := 11) (n := 4) (lo := 2147483648) (hi := 2147483668) (as0 := as_b77) (Eb := Eb_b77) (f := f_b77) (res := rs_b77) (e2_orG_ok (k0 := 231) (a := 83) (j := 11) (n := 4) (lo := 2147483648) (hi := 2147483668) (as0 := as_b76) (Eb := Eb_b76) (f := f_b76) (res := rs_b76) (e2_orG_ok (k0 := 231) (a := 83) (j := 11) (n := 4) (lo := 2147483648) (hi := 2147483668) (as0 := as_b75) (Eb := Eb_b75) (f := f_b75) (res := rs_b75) (e2_orG_ok (k0 := 231) (a := 83) (j := 11) (n := 4) (lo := 2147483648) (hi := 2147483668) (as0 := as_b74) (Eb := Eb_b74) (f := f_b74) (res := rs_b74) (e2_orG_ok (k0 := 231) (a := 83) (j := 11) (n := 4) (lo := 2147483648) (hi := 2147483668) (as0 := as_b73) (Eb := Eb_b73) (f := f_b73) (res := rs_b73) (e2_orG_ok (k0 := 231) (a := 83) (j := 11) (n := 4) (lo := 2147483648) (hi := 2147483668) (as0 := as_b72) (Eb := Eb_b72) (f := f_b72) (res := rs_b72) (e2_orG_ok (k0 := 231) (a := 83) (j := 11) (n := 4) (lo := 2147483648) (hi := 2147483668) (as0 := as_b71) (Eb := Eb_b71) (f := f_b71) (res := rs_b71) (e2_orG_ok (k0 := 231) (a := 83) (j := 11) (n := 4) (lo := 2147483648) (hi := 2147483668) (as0 := as_b70) (Eb := Eb_b70) (f := f_b70) (res := rs_b70) (e2_orG_ok (k0 := 231) (a := 83) (j := 11) (n := 4) (lo := 2147483648) (hi := 2147483668) (as0 := as_b69) (Eb := Eb_b69) (f := f_b69) (res := rs_b69) (e2_orG_ok (k0 := 231) (a := 83) (j := 11) (n := 4) (lo := 2147483648) (hi := 2147483668) (as0 := as_b68) (Eb := Eb_b68) (f := f_b68) (res := rs_b68) (e2_orG_ok (k0 := 231) (a := 83) (j := 11) (n := 4) (lo := 2147483648) (hi := 2147483668) (as0 := as_b67) (Eb := Eb_b67) (f := f_b67) (res := rs_b67) (e2_orG_ok (k0 := 231) (a := 83) (j := 11) (n := 4) (lo := 2147483648) (hi := 2147483668) (as0 := as_b66) (Eb := Eb_b66) (f := f_b66) (res := rs_b66) (e2_orG_ok (k0 := 231) (a := 83) (j := 11) (n := 4) (lo := 2147483648) (hi := 2147483668) (as0 := as_b65) (Eb := Eb_b65) (f := f_b65) (res := rs_b65) (e2_orG_ok (k0 := 231) (a := 83) (j := 11) (n := 4) (lo := 2147483648) (hi := 2147483668) (as0 := as_b64) (Eb := Eb_b64) (f := f_b64) (res := rs_b64) (e2_cal_ok hen (e2_fa (cs_b24 hen l) (e2_fa (cs_b25 hen l) (e2_fa (cs_b26 hen l) (e2_fa (cs_b27 hen l) (e2_fa (cs_b28 hen l) (e2_fa (cs_b29 hen l) (e2_fa (cs_b30 hen l) (e2_fa (cs_b31 hen l) (e2_fa (cs_b32 hen l) (e2_fa (cs_b33 hen l) (e2_fa (cs_b34 hen l) (e2_fa (cs_b35 hen l) (e2_fa (cs_b36 hen l) (e2_fa (cs_b37 hen l) (e2_fa (cs_b38 hen l) (e2_fa (cs_b39 hen l) (e2_fa (cs_b40 hen l) (e2_fa (cs_b41 hen l) (e2_fa (cs_b42 hen l) (e2_fa (cs_b43 hen l) e2_fz)))))))))))))))))))) (e2_fa ein_216 (e2_fa ein_217 (e2_fa ein_227 e2_fz))) 1 d (by omega)) rfl (by decide +kernel) (fun M hM => (cs_b64 hen l).2 M hM d (by omega)) (e2_okGB_ok cog_b64)) rfl (by decide +kernel) (fun M hM => (cs_b65 hen l).2 M hM d (by omega)) (e2_okGB_ok cog_b65)) rfl (by decide +kernel) (fun M hM => (cs_b66 hen l).2 M hM d (by omega)) (e2_okGB_ok cog_b66)) rfl (by decide +kernel) (fun M hM => (cs_b67 hen l).2 M hM d (by omega)) (e2_okGB_ok cog_b67)) rfl (by decide +kernel) (fun M hM => (cs_b68 hen l).2 M hM d (by omega)) (e2_okGB_ok cog_b68)) rfl (by decide +kernel) (fun M hM => (cs_b69 hen l).2 M hM d (by omega)) (e2_okGB_ok cog_b69)) rfl (by decide +kernel) (fun M hM => (cs_b70 hen l).2 M hM d (by omega)) (e2_okGB_ok cog_b70)) rfl (by decide +kernel) (fun M hM => (cs_b71 hen l).2 M hM d (by omega)) (e2_okGB_ok cog_b71)) rfl (by decide +kernel) (fun M hM => (cs_b72 hen l).2 M hM d (by omega)) (e2_okGB_ok cog_b72)) rfl (by decide +kernel) (fun M hM => (cs_b73 hen l).2 M hM d (by omega)) (e2_okGB_ok cog_b73)) rfl (by decide +kernel) (fun M hM => (cs_b74 hen l).2 M hM d (by omega)) (e2_okGB_ok cog_b74)) rfl (by decide +kernel) (fun M hM => (cs_b75 hen l).2 M hM d (by omega)) (e2_okGB_ok cog_b75)) rfl (by decide +kernel) (fun M hM => (cs_b76 hen l).2 M hM d (by omega)) (e2_okGB_ok cog_b76)) rfl (by decide +kernel) (fun M hM => (cs_b77 hen l).2 M hM d (by omega)) (e2_okGB_ok cog_b77)) rfl (by decide +kernel) (fun M hM => (cs_b78 hen l).2 M hM d (by omega)) (e2_okGB_ok cog_b78)) rfl (by decide +kernel) (fun M hM => (cs_b79 hen l).2 M hM d (by omega)) (e2_okGB_ok cog_b79)) rfl (by decide +kernel) (fun M hM => (cs_b80 hen l).2 M hM d (by omega)) (e2_okGB_ok cog_b80)) rfl (by decide +kernel) (fun M hM => (cs_b81 hen l).2 M hM d (by omega)) (e2_okGB_ok cog_b81)) rfl (by decide +kernel) (fun M hM => (cs_b82 hen l).2 M hM d (by omega)) (e2_okGB_ok cog_b82)) rfl (by decide +kernel) (fun M hM => (cs_b83 hen l).2 M hM d (by omega)) (e2_okGB_ok cog_b83))) (by decide) co_b85 fun M d _ hC hcall p e R s m args below meth c Q D cA A ads r0 ha hl0 => ?_
  have EN_120 := e2_cutS_ok (bp := 120) (cuts := cu_b85_120) (e2_cuts_len hl0 (by decide +kernel)) (e2_cuts_ok hen ha hcall (hC [76, 192, 195]) (X := e2x_230) ex2_230 (e2_cuts_len hl0 (by decide +kernel)) ck_b85_u120)
  have L_27 : e2_gdM M p l e R s m args below meth c Q D cA A ads r0 49 al_b85_27 [] E_b85_27 h_b85_27 := by
    refine e2_indD (u := 4) (j := 2) (lo := 2147483647) (hi := 2147483667) hl0 (by decide) rfl rfl rfl ci_b85_27 cj_b85_27 ?_
    intro r_27 k_27 hk_27 hp_27 hs_27 hn_27
    have hl_27 : r_27.length ≤ 5 := hs_27.len rfl
    have ha_27 := ha.ext hp_27
    have L_28 : e2_gdM M p l e R s m args below meth c Q D cA A ads r_27 55 al_b85_28 [] E_b85_28 h_b85_28 := by
      refine e2_indL (u := 5) (j := 3) (lo := 2147483648) (hi := 2147483657) (b := 5) (dd := 0) hl_27 (by decide) rfl rfl (Or.inr ⟨rfl, rfl⟩) rfl ci_b85_28 cj_b85_28 ?_
      intro r_28 k_28 hk_28 hp_28 hs_28 hn_28
      have hl_28 : r_28.length ≤ 6 := hs_28.len rfl
      have ha_28 := ha_27.ext hp_28
      exact e2_fromM hen ha_28 hcall (e2_cutA_ok (e2_fa (fun al st E h hc => (hn_27 al st E h hc).ext hp_28) (e2_fa (fun al st E h hc => hn_28 al st E h hc) e2_fz))) (hC [76, 192, 195]) (X := e2x_230) ex2_230 55 ck_b85_28
    have EN_28 := e2_entL (u := 5) (j := 3) (lo := 2147483648) (hi := 2147483657) hl_27 rfl rfl rfl ci_b85_28 cj_b85_28 L_28
    exact e2_fromM hen ha_27 hcall (e2_cutA_ok (e2_fa (fun al st E h hc => (EN_120 al st E h hc).ext hp_27) (e2_fa (fun al st E h hc => EN_28 al st E h hc) e2_fz))) (hC [76, 192, 195]) (X := e2x_230) ex2_230 49 ck_b85_27
  have EN_27 := e2_entL (u := 4) (j := 2) (lo := 2147483647) (hi := 2147483667) hl0 rfl rfl rfl ci_b85_27 cj_b85_27 L_27
  have L_26 : e2_gdM M p l e R s m args below meth c Q D cA A ads r0 2 al_b85_26 [] E_b85_26 h_b85_26 := by
    refine e2_indL (u := 4) (j := 2) (lo := 2147483648) (hi := 2147483657) (b := 4) (dd := 0) hl0 (by decide) rfl rfl (Or.inr ⟨rfl, rfl⟩) rfl ci_b85_26 cj_b85_26 ?_
    intro r_26 k_26 hk_26 hp_26 hs_26 hn_26
    have hl_26 : r_26.length ≤ 5 := hs_26.len rfl
    have ha_26 := ha.ext hp_26
    exact e2_fromM hen ha_26 hcall (e2_cutA_ok (e2_fa (fun al st E h hc => hn_26 al st E h hc) (e2_fa (fun al st E h hc => (EN_27 al st E h hc).ext hp_26) e2_fz))) (hC [76, 192, 195]) (X := e2x_230) ex2_230 2 ck_b85_26
  have EN_26 := e2_entL (u := 4) (j := 2) (lo := 2147483648) (hi := 2147483657) hl0 rfl rfl rfl ci_b85_26 cj_b85_26 L_26
  exact e2_from hen ha hcall (e2_cutA_ok (e2_fa (fun al st E h hc => EN_26 al st E h hc) e2_fz)) (hC [76, 192, 195]) (X := e2x_230) ex2_230 0 ck_b85_e
/-! b86 X10_read -/
def as_b86 : List ev_V := [(2, 83, 0), (11, 0, 4294967295)]
def E_b86 : e2_E := [(2147483648, 2147583648, 0, 0), (2147483650, 2147483650, 1, 0), (2147483648, 2147483688, 2, 0), (2147483648, 2147483688, 3, 0)]
def bc183 : ev_C := (50, [(11, 2147483649, 2147483654), (11, 2147483649, 2147483654), (11, 2147483648, 2147483654), (11, 2147483648, 2147483654), (11, 2147483648, 2147483654), (11, 2147483648, 2147483654), (11, 2147483648, 2147483654), (11, 2147483648, 2147483654), (11, 2147483648, 2147483654), (11, 2147483648, 2147483654), (11, 2147483648, 2147483654), (11, 2147483648, 2147483654), (11, 2147483648, 2147483654), (11, 2147483648, 2147483654), (11, 2147483648, 2147483654), (11, 2147483648, 2147483654)])
def bn669 : e2_Q1 := (bc183, bc3)
def bn670 : e2_Q2 := (bn130, bn669)
def bn671 : e2_Q3 := (bn129, bn670)
def bn672 : e2_Q4 := (bn671, bn386)
def bn673 : e2_Q5 := (bn672, bn156)
def bn674 : e2_Q6 := (bn673, bn487)
def bn675 : e2_Q7 := (bn674, bn451)
def bn676 : e2_Q8 := (bn477, bn675)
noncomputable def f_b86 : ev_H := (bn676 : e2_Q8)
noncomputable def q_b86_0 : ev_H := (bn676 : e2_Q8)
noncomputable def rs_b86 : e2_Rs := [((11, 2147483647, 2147483668), q_b86_0)]
noncomputable def s_b86 : e2_Sm := (230, as_b86, E_b86, f_b86, rs_b86)
noncomputable def S_b86 : List e2_Sm := [s_b24, s_b25, s_b26, s_b27, s_b28, s_b29, s_b30, s_b31, s_b32, s_b33, s_b34, s_b35, s_b36, s_b37, s_b38, s_b39, s_b40, s_b41, s_b42, s_b43]
noncomputable def I_b86 : List e2_In := [(216, 1, e2x_216), (217, 1, e2x_217), (227, 2, e2x_227)]
set_option maxRecDepth 1000000 in
theorem co_b86 : e2_okSB E_b86.length as_b86 f_b86 rs_b86 = true := by decide +kernel
def al_b86_26 : List ev_V := [(2, 83, 0), (11, 0, 4294967295), (1, 4, 4294967296), (9, 0, 0), (9, 0, 0)]
def E_b86_26 : e2_E := [(2147483648, 2147583648, 0, 0), (2147483650, 2147483650, 1, 0), (2147483648, 2147483688, 2, 0), (2147483648, 2147483688, 3, 0), (2147483648, 2147483657, 4, 0)]
noncomputable def h_b86_26 : ev_H := (bn676 : e2_Q8)
def al_b86_27 : List ev_V := [(2, 83, 0), (11, 0, 4294967295), (1, 4, 4294967296), (9, 0, 0), (9, 0, 0)]
def E_b86_27 : e2_E := [(2147483648, 2147583648, 0, 0), (2147483650, 2147483650, 1, 0), (2147483648, 2147483688, 2, 0), (2147483648, 2147483688, 3, 0), (2147483647, 2147483667, 4, 0)]
noncomputable def h_b86_27 : ev_H := (bn676 : e2_Q8)
def al_b86_28 : List ev_V := [(2, 83, 0), (11, 0, 4294967295), (1, 4, 4294967296), (1, 5, 4294967296), (9, 0, 0)]
def E_b86_28 : e2_E := [(2147483648, 2147583648, 0, 0), (2147483650, 2147483650, 1, 0), (2147483648, 2147483688, 2, 0), (2147483648, 2147483688, 3, 0), (2147483648, 2147483667, 4, 0), (2147483648, 2147483657, 5, 0)]
noncomputable def h_b86_28 : ev_H := (bn676 : e2_Q8)
def bn677 : e2_Q7 := (bn674, bn496)
def bn678 : e2_Q8 := (bn477, bn677)
noncomputable def h_b86_0 : ev_H := (bn678 : e2_Q8)
def bn679 : e2_Q7 := (bn674, bn514)
def bn680 : e2_Q8 := (bn477, bn679)
noncomputable def h_b86_1 : ev_H := (bn680 : e2_Q8)
def bn681 : e2_Q7 := (bn674, bn522)
def bn682 : e2_Q8 := (bn477, bn681)
noncomputable def h_b86_2 : ev_H := (bn682 : e2_Q8)
def bn683 : e2_Q7 := (bn674, bn530)
def bn684 : e2_Q8 := (bn477, bn683)
noncomputable def h_b86_3 : ev_H := (bn684 : e2_Q8)
def bn685 : e2_Q7 := (bn674, bn538)
def bn686 : e2_Q8 := (bn477, bn685)
noncomputable def h_b86_4 : ev_H := (bn686 : e2_Q8)
def bn687 : e2_Q7 := (bn674, bn546)
def bn688 : e2_Q8 := (bn477, bn687)
noncomputable def h_b86_5 : ev_H := (bn688 : e2_Q8)
def bn689 : e2_Q7 := (bn674, bn554)
def bn690 : e2_Q8 := (bn477, bn689)
noncomputable def h_b86_6 : ev_H := (bn690 : e2_Q8)
def bn691 : e2_Q7 := (bn674, bn562)
def bn692 : e2_Q8 := (bn477, bn691)
noncomputable def h_b86_7 : ev_H := (bn692 : e2_Q8)
def bn693 : e2_Q7 := (bn674, bn570)
def bn694 : e2_Q8 := (bn477, bn693)
noncomputable def h_b86_8 : ev_H := (bn694 : e2_Q8)
def bn695 : e2_Q7 := (bn674, bn578)
def bn696 : e2_Q8 := (bn477, bn695)
noncomputable def h_b86_9 : ev_H := (bn696 : e2_Q8)
def bn697 : e2_Q7 := (bn674, bn586)
def bn698 : e2_Q8 := (bn477, bn697)
noncomputable def h_b86_10 : ev_H := (bn698 : e2_Q8)
def bn699 : e2_Q7 := (bn674, bn594)
def bn700 : e2_Q8 := (bn477, bn699)
noncomputable def h_b86_11 : ev_H := (bn700 : e2_Q8)
def bn701 : e2_Q7 := (bn674, bn602)
def bn702 : e2_Q8 := (bn477, bn701)
noncomputable def h_b86_12 : ev_H := (bn702 : e2_Q8)
def bn703 : e2_Q7 := (bn674, bn610)
def bn704 : e2_Q8 := (bn477, bn703)
noncomputable def h_b86_13 : ev_H := (bn704 : e2_Q8)
def bn705 : e2_Q7 := (bn674, bn618)
def bn706 : e2_Q8 := (bn477, bn705)
noncomputable def h_b86_14 : ev_H := (bn706 : e2_Q8)
def bn707 : e2_Q7 := (bn674, bn626)
def bn708 : e2_Q8 := (bn477, bn707)
noncomputable def h_b86_15 : ev_H := (bn708 : e2_Q8)
def bn709 : e2_Q7 := (bn674, bn634)
def bn710 : e2_Q8 := (bn477, bn709)
noncomputable def h_b86_16 : ev_H := (bn710 : e2_Q8)
def bn711 : e2_Q7 := (bn674, bn642)
def bn712 : e2_Q8 := (bn477, bn711)
noncomputable def h_b86_17 : ev_H := (bn712 : e2_Q8)
def bn713 : e2_Q7 := (bn674, bn650)
def bn714 : e2_Q8 := (bn477, bn713)
noncomputable def h_b86_18 : ev_H := (bn714 : e2_Q8)
def bn715 : e2_Q7 := (bn674, bn658)
def bn716 : e2_Q8 := (bn477, bn715)
noncomputable def h_b86_19 : ev_H := (bn716 : e2_Q8)
noncomputable def h_b86_20 : ev_H := (bn676 : e2_Q8)
def bn717 : e2_Q7 := (bn674, bn666)
def bn718 : e2_Q8 := (bn477, bn717)
noncomputable def h_b86_21 : ev_H := (bn718 : e2_Q8)
noncomputable def h_b86_22 : ev_H := (bn718 : e2_Q8)
noncomputable def h_b86_23 : ev_H := (bn718 : e2_Q8)
noncomputable def h_b86_24 : ev_H := (bn718 : e2_Q8)
noncomputable def h_b86_25 : ev_H := (bn718 : e2_Q8)
noncomputable def cu_b86_120 : List e2_Cu := [([(2, 83, 0), (11, 0, 4294967295), (0, 0, 0), (0, 8, 0), (9, 0, 0)], [(2147483648, 2147583648, 0, 0), (2147483650, 2147483650, 1, 0), (2147483648, 2147483688, 2, 0), (2147483648, 2147483688, 3, 0)], h_b86_0),
  ([(2, 83, 0), (11, 0, 4294967295), (0, 1, 0), (11, 2147483648, 2147483656), (11, 2147483647, 2147483649)], [(2147483648, 2147583648, 0, 0), (2147483650, 2147483650, 1, 0), (2147483648, 2147483688, 2, 0), (2147483648, 2147483688, 3, 0)], h_b86_1),
  ([(2, 83, 0), (11, 0, 4294967295), (0, 2, 0), (11, 2147483648, 2147483656), (11, 2147483647, 2147483649)], [(2147483648, 2147583648, 0, 0), (2147483650, 2147483650, 1, 0), (2147483648, 2147483688, 2, 0), (2147483648, 2147483688, 3, 0)], h_b86_2),
  ([(2, 83, 0), (11, 0, 4294967295), (0, 3, 0), (11, 2147483648, 2147483656), (11, 2147483647, 2147483649)], [(2147483648, 2147583648, 0, 0), (2147483650, 2147483650, 1, 0), (2147483648, 2147483688, 2, 0), (2147483648, 2147483688, 3, 0)], h_b86_3),
  ([(2, 83, 0), (11, 0, 4294967295), (0, 4, 0), (11, 2147483648, 2147483656), (11, 2147483647, 2147483649)], [(2147483648, 2147583648, 0, 0), (2147483650, 2147483650, 1, 0), (2147483648, 2147483688, 2, 0), (2147483648, 2147483688, 3, 0)], h_b86_4),
  ([(2, 83, 0), (11, 0, 4294967295), (0, 5, 0), (11, 2147483648, 2147483656), (11, 2147483647, 2147483649)], [(2147483648, 2147583648, 0, 0), (2147483650, 2147483650, 1, 0), (2147483648, 2147483688, 2, 0), (2147483648, 2147483688, 3, 0)], h_b86_5),
  ([(2, 83, 0), (11, 0, 4294967295), (0, 6, 0), (11, 2147483648, 2147483656), (11, 2147483647, 2147483649)], [(2147483648, 2147583648, 0, 0), (2147483650, 2147483650, 1, 0), (2147483648, 2147483688, 2, 0), (2147483648, 2147483688, 3, 0)], h_b86_6),
  ([(2, 83, 0), (11, 0, 4294967295), (0, 7, 0), (11, 2147483648, 2147483656), (11, 2147483647, 2147483649)], [(2147483648, 2147583648, 0, 0), (2147483650, 2147483650, 1, 0), (2147483648, 2147483688, 2, 0), (2147483648, 2147483688, 3, 0)], h_b86_7),
  ([(2, 83, 0), (11, 0, 4294967295), (0, 8, 0), (11, 2147483648, 2147483656), (11, 2147483647, 2147483649)], [(2147483648, 2147583648, 0, 0), (2147483650, 2147483650, 1, 0), (2147483648, 2147483688, 2, 0), (2147483648, 2147483688, 3, 0)], h_b86_8),
  ([(2, 83, 0), (11, 0, 4294967295), (0, 9, 0), (11, 2147483648, 2147483656), (11, 2147483647, 2147483649)], [(2147483648, 2147583648, 0, 0), (2147483650, 2147483650, 1, 0), (2147483648, 2147483688, 2, 0), (2147483648, 2147483688, 3, 0)], h_b86_9),
  ([(2, 83, 0), (11, 0, 4294967295), (0, 10, 0), (11, 2147483648, 2147483656), (11, 2147483647, 2147483649)], [(2147483648, 2147583648, 0, 0), (2147483650, 2147483650, 1, 0), (2147483648, 2147483688, 2, 0), (2147483648, 2147483688, 3, 0)], h_b86_10),
  ([(2, 83, 0), (11, 0, 4294967295), (0, 11, 0), (11, 2147483648, 2147483656), (11, 2147483647, 2147483649)], [(2147483648, 2147583648, 0, 0), (2147483650, 2147483650, 1, 0), (2147483648, 2147483688, 2, 0), (2147483648, 2147483688, 3, 0)], h_b86_11),
  ([(2, 83, 0), (11, 0, 4294967295), (0, 12, 0), (11, 2147483648, 2147483656), (11, 2147483647, 2147483649)], [(2147483648, 2147583648, 0, 0), (2147483650, 2147483650, 1, 0), (2147483648, 2147483688, 2, 0), (2147483648, 2147483688, 3, 0)], h_b86_12),
  ([(2, 83, 0), (11, 0, 4294967295), (0, 13, 0), (11, 2147483648, 2147483656), (11, 2147483647, 2147483649)], [(2147483648, 2147583648, 0, 0), (2147483650, 2147483650, 1, 0), (2147483648, 2147483688, 2, 0), (2147483648, 2147483688, 3, 0)], h_b86_13),
  ([(2, 83, 0), (11, 0, 4294967295), (0, 14, 0), (11, 2147483648, 2147483656), (11, 2147483647, 2147483649)], [(2147483648, 2147583648, 0, 0), (2147483650, 2147483650, 1, 0), (2147483648, 2147483688, 2, 0), (2147483648, 2147483688, 3, 0)], h_b86_14),
  ([(2, 83, 0), (11, 0, 4294967295), (0, 15, 0), (11, 2147483648, 2147483656), (11, 2147483647, 2147483649)], [(2147483648, 2147583648, 0, 0), (2147483650, 2147483650, 1, 0), (2147483648, 2147483688, 2, 0), (2147483648, 2147483688, 3, 0)], h_b86_15),
  ([(2, 83, 0), (11, 0, 4294967295), (0, 16, 0), (11, 2147483648, 2147483656), (11, 2147483647, 2147483649)], [(2147483648, 2147583648, 0, 0), (2147483650, 2147483650, 1, 0), (2147483648, 2147483688, 2, 0), (2147483648, 2147483688, 3, 0)], h_b86_16),
  ([(2, 83, 0), (11, 0, 4294967295), (0, 17, 0), (11, 2147483648, 2147483656), (11, 2147483647, 2147483649)], [(2147483648, 2147583648, 0, 0), (2147483650, 2147483650, 1, 0), (2147483648, 2147483688, 2, 0), (2147483648, 2147483688, 3, 0)], h_b86_17),
  ([(2, 83, 0), (11, 0, 4294967295), (0, 18, 0), (11, 2147483648, 2147483656), (11, 2147483647, 2147483649)], [(2147483648, 2147583648, 0, 0), (2147483650, 2147483650, 1, 0), (2147483648, 2147483688, 2, 0), (2147483648, 2147483688, 3, 0)], h_b86_18),
  ([(2, 83, 0), (11, 0, 4294967295), (0, 19, 0), (11, 2147483648, 2147483656), (11, 2147483647, 2147483649)], [(2147483648, 2147583648, 0, 0), (2147483650, 2147483650, 1, 0), (2147483648, 2147483688, 2, 0), (2147483648, 2147483688, 3, 0)], h_b86_19),
  ([(2, 83, 0), (11, 0, 4294967295), (0, 20, 0), (11, 2147483648, 2147483656), (11, 2147483647, 2147483649)], [(2147483648, 2147583648, 0, 0), (2147483650, 2147483650, 1, 0), (2147483648, 2147483688, 2, 0), (2147483648, 2147483688, 3, 0)], h_b86_20),
  ([(2, 83, 0), (11, 0, 4294967295), (0, 21, 0), (11, 2147483648, 2147483649), (11, 2147483648, 2147483649)], [(2147483648, 2147583648, 0, 0), (2147483650, 2147483650, 1, 0), (2147483648, 2147483688, 2, 0), (2147483648, 2147483688, 3, 0)], h_b86_21),
  ([(2, 83, 0), (11, 0, 4294967295), (0, 22, 0), (11, 2147483648, 2147483649), (11, 2147483648, 2147483649)], [(2147483648, 2147583648, 0, 0), (2147483650, 2147483650, 1, 0), (2147483648, 2147483688, 2, 0), (2147483648, 2147483688, 3, 0)], h_b86_22),
  ([(2, 83, 0), (11, 0, 4294967295), (0, 23, 0), (11, 2147483648, 2147483649), (11, 2147483648, 2147483649)], [(2147483648, 2147583648, 0, 0), (2147483650, 2147483650, 1, 0), (2147483648, 2147483688, 2, 0), (2147483648, 2147483688, 3, 0)], h_b86_23),
  ([(2, 83, 0), (11, 0, 4294967295), (0, 24, 0), (11, 2147483648, 2147483649), (11, 2147483648, 2147483649)], [(2147483648, 2147583648, 0, 0), (2147483650, 2147483650, 1, 0), (2147483648, 2147483688, 2, 0), (2147483648, 2147483688, 3, 0)], h_b86_24),
  ([(2, 83, 0), (11, 0, 4294967295), (0, 25, 0), (11, 2147483648, 2147483649), (11, 2147483648, 2147483649)], [(2147483648, 2147583648, 0, 0), (2147483650, 2147483650, 1, 0), (2147483648, 2147483688, 2, 0), (2147483648, 2147483688, 3, 0)], h_b86_25)]
noncomputable def cl_b86_e : List (Nat × e2_S) := [(2, e2_cutL (al_b86_26.set 2 (11, 2147483648, 2147483657)) 4 (E_b86_26.take 4) h_b86_26)]
set_option maxRecDepth 1000000 in
theorem ck_b86_e : e2_run (e2_orG 231 83 11 4 2147483648 2147483668 as_b83 Eb_b83 f_b83 rs_b83 (e2_orG 231 83 11 4 2147483648 2147483668 as_b82 Eb_b82 f_b82 rs_b82 (e2_orG 231 83 11 4 2147483648 2147483668 as_b81 Eb_b81 f_b81 rs_b81 (e2_orG 231 83 11 4 2147483648 2147483668 as_b80 Eb_b80 f_b80 rs_b80 (e2_orG 231 83 11 4 2147483648 2147483668 as_b79 Eb_b79 f_b79 rs_b79 (e2_orG 231 83 11 4 2147483648 2147483668 as_b78 Eb_b78 f_b78 rs_b78 (e2_orG 231 83 11 4 2147483648 2147483668 as_b77 Eb_b77 f_b77 rs_b77 (e2_orG 231 83 11 4 2147483648 2147483668 as_b76 Eb_b76 f_b76 rs_b76 (e2_orG 231 83 11 4 2147483648 2147483668 as_b75 Eb_b75 f_b75 rs_b75 (e2_orG 231 83 11 4 2147483648 2147483668 as_b74 Eb_b74 f_b74 rs_b74 (e2_orG 231 83 11 4 2147483648 2147483668 as_b73 Eb_b73 f_b73 rs_b73 (e2_orG 231 83 11 4 2147483648 2147483668 as_b72 Eb_b72 f_b72 rs_b72 (e2_orG 231 83 11 4 2147483648 2147483668 as_b71 Eb_b71 f_b71 rs_b71 (e2_orG 231 83 11 4 2147483648 2147483668 as_b70 Eb_b70 f_b70 rs_b70 (e2_orG 231 83 11 4 2147483648 2147483668 as_b69 Eb_b69 f_b69 rs_b69 (e2_orG 231 83 11 4 2147483648 2147483668 as_b68 Eb_b68 f_b68 rs_b68 (e2_orG 231 83 11 4 2147483648 2147483668 as_b67 Eb_b67 f_b67 rs_b67 (e2_orG 231 83 11 4 2147483648 2147483668 as_b66 Eb_b66 f_b66 rs_b66 (e2_orG 231 83 11 4 2147483648 2147483668 as_b65 Eb_b65 f_b65 rs_b65 (e2_orG 231 83 11 4 2147483648 2147483668 as_b64 Eb_b64 f_b64 rs_b64 (e2_cal S_b86 I_b86 4000 1))))))))))))))))))))) (e2_fin rs_b86) e2x_230 (e2_bpL cl_b86_e) (e2_cutA cl_b86_e) 4000 (e2_seek e2x_230 0) (e2_al 5 as_b86) [] E_b86 f_b86 = true := by decide +kernel
noncomputable def cl_b86_26 : List (Nat × e2_S) := [(2, e2_cutL (al_b86_26.set 2 (13, 12, 2147483657)) 4 (E_b86_26.take 4) h_b86_26),
  (49, e2_cutL (al_b86_27.set 2 (11, 2147483647, 2147483667)) 4 (E_b86_27.take 4) h_b86_27)]
set_option maxRecDepth 1000000 in
theorem ck_b86_26 : e2_runM (e2_orG 231 83 11 4 2147483648 2147483668 as_b83 Eb_b83 f_b83 rs_b83 (e2_orG 231 83 11 4 2147483648 2147483668 as_b82 Eb_b82 f_b82 rs_b82 (e2_orG 231 83 11 4 2147483648 2147483668 as_b81 Eb_b81 f_b81 rs_b81 (e2_orG 231 83 11 4 2147483648 2147483668 as_b80 Eb_b80 f_b80 rs_b80 (e2_orG 231 83 11 4 2147483648 2147483668 as_b79 Eb_b79 f_b79 rs_b79 (e2_orG 231 83 11 4 2147483648 2147483668 as_b78 Eb_b78 f_b78 rs_b78 (e2_orG 231 83 11 4 2147483648 2147483668 as_b77 Eb_b77 f_b77 rs_b77 (e2_orG 231 83 11 4 2147483648 2147483668 as_b76 Eb_b76 f_b76 rs_b76 (e2_orG 231 83 11 4 2147483648 2147483668 as_b75 Eb_b75 f_b75 rs_b75 (e2_orG 231 83 11 4 2147483648 2147483668 as_b74 Eb_b74 f_b74 rs_b74 (e2_orG 231 83 11 4 2147483648 2147483668 as_b73 Eb_b73 f_b73 rs_b73 (e2_orG 231 83 11 4 2147483648 2147483668 as_b72 Eb_b72 f_b72 rs_b72 (e2_orG 231 83 11 4 2147483648 2147483668 as_b71 Eb_b71 f_b71 rs_b71 (e2_orG 231 83 11 4 2147483648 2147483668 as_b70 Eb_b70 f_b70 rs_b70 (e2_orG 231 83 11 4 2147483648 2147483668 as_b69 Eb_b69 f_b69 rs_b69 (e2_orG 231 83 11 4 2147483648 2147483668 as_b68 Eb_b68 f_b68 rs_b68 (e2_orG 231 83 11 4 2147483648 2147483668 as_b67 Eb_b67 f_b67 rs_b67 (e2_orG 231 83 11 4 2147483648 2147483668 as_b66 Eb_b66 f_b66 rs_b66 (e2_orG 231 83 11 4 2147483648 2147483668 as_b65 Eb_b65 f_b65 rs_b65 (e2_orG 231 83 11 4 2147483648 2147483668 as_b64 Eb_b64 f_b64 rs_b64 (e2_cal S_b86 I_b86 4000 1))))))))))))))))))))) (e2_fin rs_b86) e2x_230 (e2_bpL cl_b86_26) (e2_cutA cl_b86_26) 4000 (e2_seek e2x_230 2) al_b86_26 [] E_b86_26 h_b86_26 = true := by decide +kernel
set_option maxRecDepth 1000000 in
theorem ci_b86_26 : e2_idl 4 (al_b86_26.set 2 (9, 0, 0)) = true := by decide +kernel
set_option maxRecDepth 1000000 in
theorem cj_b86_26 : e2_idh 4 8 h_b86_26 = true := by decide +kernel
noncomputable def cl_b86_27 : List (Nat × e2_S) := [(120, e2_cutS cu_b86_120),
  (55, e2_cutL (al_b86_28.set 3 (11, 2147483648, 2147483657)) 5 (E_b86_28.take 5) h_b86_28)]
set_option maxRecDepth 1000000 in
theorem ck_b86_27 : e2_runM (e2_orG 231 83 11 4 2147483648 2147483668 as_b83 Eb_b83 f_b83 rs_b83 (e2_orG 231 83 11 4 2147483648 2147483668 as_b82 Eb_b82 f_b82 rs_b82 (e2_orG 231 83 11 4 2147483648 2147483668 as_b81 Eb_b81 f_b81 rs_b81 (e2_orG 231 83 11 4 2147483648 2147483668 as_b80 Eb_b80 f_b80 rs_b80 (e2_orG 231 83 11 4 2147483648 2147483668 as_b79 Eb_b79 f_b79 rs_b79 (e2_orG 231 83 11 4 2147483648 2147483668 as_b78 Eb_b78 f_b78 rs_b78 (e2_orG 231 83 11 4 2147483648 2147483668 as_b77 Eb_b77 f_b77 rs_b77 (e2_orG 231 83 11 4 2147483648 2147483668 as_b76 Eb_b76 f_b76 rs_b76 (e2_orG 231 83 11 4 2147483648 2147483668 as_b75 Eb_b75 f_b75 rs_b75 (e2_orG 231 83 11 4 2147483648 2147483668 as_b74 Eb_b74 f_b74 rs_b74 (e2_orG 231 83 11 4 2147483648 2147483668 as_b73 Eb_b73 f_b73 rs_b73 (e2_orG 231 83 11 4 2147483648 2147483668 as_b72 Eb_b72 f_b72 rs_b72 (e2_orG 231 83 11 4 2147483648 2147483668 as_b71 Eb_b71 f_b71 rs_b71 (e2_orG 231 83 11 4 2147483648 2147483668 as_b70 Eb_b70 f_b70 rs_b70 (e2_orG 231 83 11 4 2147483648 2147483668 as_b69 Eb_b69 f_b69 rs_b69 (e2_orG 231 83 11 4 2147483648 2147483668 as_b68 Eb_b68 f_b68 rs_b68 (e2_orG 231 83 11 4 2147483648 2147483668 as_b67 Eb_b67 f_b67 rs_b67 (e2_orG 231 83 11 4 2147483648 2147483668 as_b66 Eb_b66 f_b66 rs_b66 (e2_orG 231 83 11 4 2147483648 2147483668 as_b65 Eb_b65 f_b65 rs_b65 (e2_orG 231 83 11 4 2147483648 2147483668 as_b64 Eb_b64 f_b64 rs_b64 (e2_cal S_b86 I_b86 4000 1))))))))))))))))))))) (e2_fin rs_b86) e2x_230 (e2_bpL cl_b86_27) (e2_cutA cl_b86_27) 4000 (e2_seek e2x_230 49) al_b86_27 [] E_b86_27 h_b86_27 = true := by decide +kernel
set_option maxRecDepth 1000000 in
theorem ci_b86_27 : e2_idl 4 (al_b86_27.set 2 (9, 0, 0)) = true := by decide +kernel
set_option maxRecDepth 1000000 in
theorem cj_b86_27 : e2_idh 4 8 h_b86_27 = true := by decide +kernel
noncomputable def cl_b86_28 : List (Nat × e2_S) := [(49, e2_cutL (al_b86_27.set 2 (12, 12, 2147483647)) 4 (E_b86_27.take 4) h_b86_27),
  (55, e2_cutL (al_b86_28.set 3 (13, 13, 2147483657)) 5 (E_b86_28.take 5) h_b86_28)]
set_option maxRecDepth 1000000 in
theorem ck_b86_28 : e2_runM (e2_orG 231 83 11 4 2147483648 2147483668 as_b83 Eb_b83 f_b83 rs_b83 (e2_orG 231 83 11 4 2147483648 2147483668 as_b82 Eb_b82 f_b82 rs_b82 (e2_orG 231 83 11 4 2147483648 2147483668 as_b81 Eb_b81 f_b81 rs_b81 (e2_orG 231 83 11 4 2147483648 2147483668 as_b80 Eb_b80 f_b80 rs_b80 (e2_orG 231 83 11 4 2147483648 2147483668 as_b79 Eb_b79 f_b79 rs_b79 (e2_orG 231 83 11 4 2147483648 2147483668 as_b78 Eb_b78 f_b78 rs_b78 (e2_orG 231 83 11 4 2147483648 2147483668 as_b77 Eb_b77 f_b77 rs_b77 (e2_orG 231 83 11 4 2147483648 2147483668 as_b76 Eb_b76 f_b76 rs_b76 (e2_orG 231 83 11 4 2147483648 2147483668 as_b75 Eb_b75 f_b75 rs_b75 (e2_orG 231 83 11 4 2147483648 2147483668 as_b74 Eb_b74 f_b74 rs_b74 (e2_orG 231 83 11 4 2147483648 2147483668 as_b73 Eb_b73 f_b73 rs_b73 (e2_orG 231 83 11 4 2147483648 2147483668 as_b72 Eb_b72 f_b72 rs_b72 (e2_orG 231 83 11 4 2147483648 2147483668 as_b71 Eb_b71 f_b71 rs_b71 (e2_orG 231 83 11 4 2147483648 2147483668 as_b70 Eb_b70 f_b70 rs_b70 (e2_orG 231 83 11 4 2147483648 2147483668 as_b69 Eb_b69 f_b69 rs_b69 (e2_orG 231 83 11 4 2147483648 2147483668 as_b68 Eb_b68 f_b68 rs_b68 (e2_orG 231 83 11 4 2147483648 2147483668 as_b67 Eb_b67 f_b67 rs_b67 (e2_orG 231 83 11 4 2147483648 2147483668 as_b66 Eb_b66 f_b66 rs_b66 (e2_orG 231 83 11 4 2147483648 2147483668 as_b65 Eb_b65 f_b65 rs_b65 (e2_orG 231 83 11 4 2147483648 2147483668 as_b64 Eb_b64 f_b64 rs_b64 (e2_cal S_b86 I_b86 4000 1))))))))))))))))))))) (e2_fin rs_b86) e2x_230 (e2_bpL cl_b86_28) (e2_cutA cl_b86_28) 4000 (e2_seek e2x_230 55) al_b86_28 [] E_b86_28 h_b86_28 = true := by decide +kernel
set_option maxRecDepth 1000000 in
theorem ci_b86_28 : e2_idl 5 (al_b86_28.set 3 (9, 0, 0)) = true := by decide +kernel
set_option maxRecDepth 1000000 in
theorem cj_b86_28 : e2_idh 5 8 h_b86_28 = true := by decide +kernel
set_option maxRecDepth 1000000 in
theorem ck_b86_u120 : e2_cutsB (e2_orG 231 83 11 4 2147483648 2147483668 as_b83 Eb_b83 f_b83 rs_b83 (e2_orG 231 83 11 4 2147483648 2147483668 as_b82 Eb_b82 f_b82 rs_b82 (e2_orG 231 83 11 4 2147483648 2147483668 as_b81 Eb_b81 f_b81 rs_b81 (e2_orG 231 83 11 4 2147483648 2147483668 as_b80 Eb_b80 f_b80 rs_b80 (e2_orG 231 83 11 4 2147483648 2147483668 as_b79 Eb_b79 f_b79 rs_b79 (e2_orG 231 83 11 4 2147483648 2147483668 as_b78 Eb_b78 f_b78 rs_b78 (e2_orG 231 83 11 4 2147483648 2147483668 as_b77 Eb_b77 f_b77 rs_b77 (e2_orG 231 83 11 4 2147483648 2147483668 as_b76 Eb_b76 f_b76 rs_b76 (e2_orG 231 83 11 4 2147483648 2147483668 as_b75 Eb_b75 f_b75 rs_b75 (e2_orG 231 83 11 4 2147483648 2147483668 as_b74 Eb_b74 f_b74 rs_b74 (e2_orG 231 83 11 4 2147483648 2147483668 as_b73 Eb_b73 f_b73 rs_b73 (e2_orG 231 83 11 4 2147483648 2147483668 as_b72 Eb_b72 f_b72 rs_b72 (e2_orG 231 83 11 4 2147483648 2147483668 as_b71 Eb_b71 f_b71 rs_b71 (e2_orG 231 83 11 4 2147483648 2147483668 as_b70 Eb_b70 f_b70 rs_b70 (e2_orG 231 83 11 4 2147483648 2147483668 as_b69 Eb_b69 f_b69 rs_b69 (e2_orG 231 83 11 4 2147483648 2147483668 as_b68 Eb_b68 f_b68 rs_b68 (e2_orG 231 83 11 4 2147483648 2147483668 as_b67 Eb_b67 f_b67 rs_b67 (e2_orG 231 83 11 4 2147483648 2147483668 as_b66 Eb_b66 f_b66 rs_b66 (e2_orG 231 83 11 4 2147483648 2147483668 as_b65 Eb_b65 f_b65 rs_b65 (e2_orG 231 83 11 4 2147483648 2147483668 as_b64 Eb_b64 f_b64 rs_b64 (e2_cal S_b86 I_b86 4000 1))))))))))))))))))))) (e2_fin rs_b86) e2x_230 120 4000 cu_b86_120 = true := by decide +kernel
set_option maxRecDepth 1000000 in
theorem cs_b86 (hen : en_ok) (l : Launch) : e2_smOk l 5 s_b86 := by
  refine e2_conC (H := 4) (C := evd_230) (call := (e2_orG 231 83 11 4 2147483648 2147483668 as_b83 Eb_b83 f_b83 rs_b83 (e2_orG 231 83 11 4 2147483648 2147483668 as_b82 Eb_b82 f_b82 rs_b82 (e2_orG 231 83 11 4 2147483648 2147483668 as_b81 Eb_b81 f_b81 rs_b81 (e2_orG 231 83 11 4 2147483648 2147483668 as_b80 Eb_b80 f_b80 rs_b80 (e2_orG 231 83 11 4 2147483648 2147483668 as_b79 Eb_b79 f_b79 rs_b79 (e2_orG 231 83 11 4 2147483648 2147483668 as_b78 Eb_b78 f_b78 rs_b78 (e2_orG 231 83 11 4 2147483648 2147483668 as_b77 Eb_b77 f_b77 rs_b77 (e2_orG 231 83 11 4 2147483648 2147483668 as_b76 Eb_b76 f_b76 rs_b76 (e2_orG 231 83 11 4 2147483648 2147483668 as_b75 Eb_b75 f_b75 rs_b75 (e2_orG 231 83 11 4 2147483648 2147483668 as_b74 Eb_b74 f_b74 rs_b74 (e2_orG 231 83 11 4 2147483648 2147483668 as_b73 Eb_b73 f_b73 rs_b73 (e2_orG 231 83 11 4 2147483648 2147483668 as_b72 Eb_b72 f_b72 rs_b72 (e2_orG 231 83 11 4 2147483648 2147483668 as_b71 Eb_b71 f_b71 rs_b71 (e2_orG 231 83 11 4 2147483648 2147483668 as_b70 Eb_b70 f_b70 rs_b70 (e2_orG 231 83 11 4 2147483648 2147483668 as_b69 Eb_b69 f_b69 rs_b69 (e2_orG 231 83 11 4 2147483648 2147483668 as_b68 Eb_b68 f_b68 rs_b68 (e2_orG 231 83 11 4 2147483648 2147483668 as_b67 Eb_b67 f_b67 rs_b67 (e2_orG 231 83 11 4 2147483648 2147483668 as_b66 Eb_b66 f_b66 rs_b66 (e2_orG 231 83 11 4 2147483648 2147483668 as_b65 Eb_b65 f_b65 rs_b65 (e2_orG 231 83 11 4 2147483648 2147483668 as_b64 Eb_b64 f_b64 rs_b64 (e2_cal S_b86 I_b86 4000 1)))))))))))))))))))))) ei_230 (fun d hd => (e2_orG_ok (k0 := 231) (a := 83) (j := 11) (n := 4) (lo := 2147483648) (hi := 2147483668) (as0 := as_b83) (Eb := Eb_b83) (f := f_b83) (res := rs_b83) (e2_orG_ok (k0 := 231) (a := 83) (j := 11) (n := 4) (lo := 2147483648) (hi := 2147483668) (as0 := as_b82) (Eb := Eb_b82) (f := f_b82) (res := rs_b82) (e2_orG_ok (k0 := 231) (a := 83) (j := 11) (n := 4) (lo := 2147483648) (hi := 2147483668) (as0 := as_b81) (Eb := Eb_b81) (f := f_b81) (res := rs_b81) (e2_orG_ok (k0 := 231) (a := 83) (j := 11) (n := 4) (lo := 2147483648) (hi := 2147483668) (as0 := as_b80) (Eb := Eb_b80) (f := f_b80) (res := rs_b80) (e2_orG_ok (k0 := 231) (a := 83) (j := 11) (n := 4) (lo := 2147483648) (hi := 2147483668) (as0 := as_b79) (Eb := Eb_b79) (f := f_b79) (res := rs_b79) (e2_orG_ok (k0 := 231) (a := 83) (j := 11) (n := 4) (lo := 2147483648) (hi := 2147483668) (as0 := as_b78) (Eb := Eb_b78) (f := f_b78) (res := rs_b78) (e2_orG_ok (k0 := 231) (a := 83) (j := 11) (n := 4) (lo := 2147483648) (hi := 2147483668) (as0 := as_b77) (Eb := Eb_b77) (f := f_b77) (res := rs_b77) (e2_orG_ok (k0 := 231) (a := 83) (j := 11) (n := 4) (lo := 2147483648) (hi := 2147483668) (as0 := as_b76) (Eb := Eb_b76) (f := f_b76) (res := rs_b76) (e2_orG_ok (k0 := 231) (a := 83) (j := 11) (n := 4) (lo := 2147483648) (hi := 2147483668) (as0 := as_b75) (Eb := Eb_b75) (f := f_b75) (res := rs_b75) (e2_orG_ok (k0 := 231) (a := 83) (j := 11) (n := 4) (lo := 2147483648) (hi := 2147483668) (as0 := as_b74) (Eb := Eb_b74) (f := f_b74) (res := rs_b74) (e2_orG_ok (k0 := 231) (a := 83) (j := 11) (n := 4) (lo := 2147483648) (hi := 2147483668) (as0 := as_b73) (Eb := Eb_b73) (f := f_b73) (res := rs_b73) (e2_orG_ok (k0 := 231) (a := 83) (j := 11) (n := 4) (lo := 2147483648) (hi := 2147483668) (as0 := as_b72) (Eb := Eb_b72) (f := f_b72) (res := rs_b72) (e2_orG_ok (k0 := 231) (a := 83) (j := 11) (n := 4) (lo := 2147483648) (hi := 2147483668) (as0 := as_b71) (Eb := Eb_b71) (f := f_b71) (res := rs_b71) (e2_orG_ok (k0 := 231) (a := 83) (j := 11) (n := 4) (lo := 2147483648) (hi := 2147483668) (as0 := as_b70) (Eb := Eb_b70) (f := f_b70) (res := rs_b70) (e2_orG_ok (k0 := 231) (a := 83) (j := 11) (n := 4) (lo := 2147483648) (hi := 2147483668) (as0 := as_b69) (Eb := Eb_b69) (f := f_b69) (res := rs_b69) (e2_orG_ok (k0 := 231) (a := 83) (j := 11) (n := 4) (lo := 2147483648) (hi := 2147483668) (as0 := as_b68) (Eb := Eb_b68) (f := f_b68) (res := rs_b68) (e2_orG_ok (k0 := 231) (a := 83) (j := 11) (n := 4) (lo := 2147483648) (hi := 2147483668) (as0 := as_b67) (Eb := Eb_b67) (f := f_b67) (res := rs_b67) (e2_orG_ok (k0 := 231) (a := 83) (j := 11) (n := 4) (lo := 2147483648) (hi := 2147483668) (as0 := as_b66) (Eb := Eb_b66) (f := f_b66) (res := rs_b66) (e2_orG_ok (k0 := 231) (a := 83) (j := 11) (n := 4) (lo := 2147483648) (hi := 2147483668) (as0 := as_b65) (Eb := Eb_b65) (f := f_b65) (res := rs_b65) (e2_orG_ok (k0 := 231) (a := 83) (j := 11) (n := 4) (lo := 2147483648) (hi := 2147483668) (as0 := as_b64) (Eb := Eb_b64) (f := f_b64) (res := rs_b64) (e2_cal_ok hen (e2_fa (cs_b24 hen l) (e2_fa (cs_b25 hen l) (e2_fa (cs_b26 hen l) (e2_fa (cs_b27 hen l) (e2_fa (cs_b28 hen l) (e2_fa (cs_b29 hen l) (e2_fa (cs_b30 hen l) (e2_fa (cs_b31 hen l) (e2_fa (cs_b32 hen l) (e2_fa (cs_b33 hen l) (e2_fa (cs_b34 hen l) (e2_fa (cs_b35 hen l) (e2_fa (cs_b36 hen l) (e2_fa (cs_b37 hen l) (e2_fa (cs_b38 hen l) (e2_fa (cs_b39 hen l) (e2_fa (cs_b40 hen l) (e2_fa (cs_b41 hen l) (e2_fa (cs_b42 hen l) (e2_fa (cs_b43 hen l) e2_fz)))))))))))))))))))) (e2_fa ein_216 (e2_fa ein_217 (e2_fa ein_227 e2_fz))) 1 d (by omega)) rfl (by decide +kernel) (fun M hM => (cs_b64 hen l).2 M hM d (by omega)) (e2_okGB_ok cog_b64)) rfl (by decide +kernel) (fun M hM => (cs_b65 hen l).2 M hM d (by omega)) (e2_okGB_ok cog_b65)) rfl (by decide +kernel) (fun M hM => (cs_b66 hen l).2 M hM d (by omega)) (e2_okGB_ok cog_b66)) rfl (by decide +kernel) (fun M hM => (cs_b67 hen l).2 M hM d (by omega)) (e2_okGB_ok cog_b67)) rfl (by decide +kernel) (fun M hM => (cs_b68 hen l).2 M hM d (by omega)) (e2_okGB_ok cog_b68)) rfl (by decide +kernel) (fun M hM => (cs_b69 hen l).2 M hM d (by omega)) (e2_okGB_ok cog_b69)) rfl (by decide +kernel) (fun M hM => (cs_b70 hen l).2 M hM d (by omega)) (e2_okGB_ok cog_b70)) rfl (by decide +kernel) (fun M hM => (cs_b71 hen l).2 M hM d (by omega)) (e2_okGB_ok cog_b71)) rfl (by decide +kernel) (fun M hM => (cs_b72 hen l).2 M hM d (by omega)) (e2_okGB_ok cog_b72)) rfl (by decide +kernel) (fun M hM => (cs_b73 hen l).2 M hM d (by omega)) (e2_okGB_ok cog_b73)) rfl (by decide +kernel) (fun M hM => (cs_b74 hen l).2 M hM d (by omega)) (e2_okGB_ok cog_b74)) rfl (by decide +kernel) (fun M hM => (cs_b75 hen l).2 M hM d (by omega)) (e2_okGB_ok cog_b75)) rfl (by decide +kernel) (fun M hM => (cs_b76 hen l).2 M hM d (by omega)) (e2_okGB_ok cog_b76)) rfl (by decide +kernel) (fun M hM => (cs_b77 hen l).2 M hM d (by omega)) (e2_okGB_ok cog_b77)) rfl (by decide +kernel) (fun M hM => (cs_b78 hen l).2 M hM d (by omega)) (e2_okGB_ok cog_b78)) rfl (by decide +kernel) (fun M hM => (cs_b79 hen l).2 M hM d (by omega)) (e2_okGB_ok cog_b79)) rfl (by decide +kernel) (fun M hM => (cs_b80 hen l).2 M hM d (by omega)) (e2_okGB_ok cog_b80)) rfl (by decide +kernel) (fun M hM => (cs_b81 hen l).2 M hM d (by omega)) (e2_okGB_ok cog_b81)) rfl (by decide +kernel) (fun M hM => (cs_b82 hen l).2 M hM d (by omega)) (e2_okGB_ok cog_b82)) rfl (by decide +kernel) (fun M hM => (cs_b83 hen l).2 M hM d (by omega)) (e2_okGB_ok cog_b83))) (by decide) co_b86 fun M d _ hC hcall p e R s m args below meth c Q D cA A ads r0 ha hl0 => ?_
  have EN_120 := e2_cutS_ok (bp := 120) (cuts := cu_b86_120) (e2_cuts_len hl0 (by decide +kernel)) (e2_cuts_ok hen ha hcall (hC [76, 192, 195]) (X := e2x_230) ex2_230 (e2_cuts_len hl0 (by decide +kernel)) ck_b86_u120)
  have L_27 : e2_gdM M p l e R s m args below meth c Q D cA A ads r0 49 al_b86_27 [] E_b86_27 h_b86_27 := by
    refine e2_indD (u := 4) (j := 2) (lo := 2147483647) (hi := 2147483667) hl0 (by decide) rfl rfl rfl ci_b86_27 cj_b86_27 ?_
    intro r_27 k_27 hk_27 hp_27 hs_27 hn_27
    have hl_27 : r_27.length ≤ 5 := hs_27.len rfl
    have ha_27 := ha.ext hp_27
    have L_28 : e2_gdM M p l e R s m args below meth c Q D cA A ads r_27 55 al_b86_28 [] E_b86_28 h_b86_28 := by
      refine e2_indL (u := 5) (j := 3) (lo := 2147483648) (hi := 2147483657) (b := 5) (dd := 0) hl_27 (by decide) rfl rfl (Or.inr ⟨rfl, rfl⟩) rfl ci_b86_28 cj_b86_28 ?_
      intro r_28 k_28 hk_28 hp_28 hs_28 hn_28
      have hl_28 : r_28.length ≤ 6 := hs_28.len rfl
      have ha_28 := ha_27.ext hp_28
      exact e2_fromM hen ha_28 hcall (e2_cutA_ok (e2_fa (fun al st E h hc => (hn_27 al st E h hc).ext hp_28) (e2_fa (fun al st E h hc => hn_28 al st E h hc) e2_fz))) (hC [76, 192, 195]) (X := e2x_230) ex2_230 55 ck_b86_28
    have EN_28 := e2_entL (u := 5) (j := 3) (lo := 2147483648) (hi := 2147483657) hl_27 rfl rfl rfl ci_b86_28 cj_b86_28 L_28
    exact e2_fromM hen ha_27 hcall (e2_cutA_ok (e2_fa (fun al st E h hc => (EN_120 al st E h hc).ext hp_27) (e2_fa (fun al st E h hc => EN_28 al st E h hc) e2_fz))) (hC [76, 192, 195]) (X := e2x_230) ex2_230 49 ck_b86_27
  have EN_27 := e2_entL (u := 4) (j := 2) (lo := 2147483647) (hi := 2147483667) hl0 rfl rfl rfl ci_b86_27 cj_b86_27 L_27
  have L_26 : e2_gdM M p l e R s m args below meth c Q D cA A ads r0 2 al_b86_26 [] E_b86_26 h_b86_26 := by
    refine e2_indL (u := 4) (j := 2) (lo := 2147483648) (hi := 2147483657) (b := 4) (dd := 0) hl0 (by decide) rfl rfl (Or.inr ⟨rfl, rfl⟩) rfl ci_b86_26 cj_b86_26 ?_
    intro r_26 k_26 hk_26 hp_26 hs_26 hn_26
    have hl_26 : r_26.length ≤ 5 := hs_26.len rfl
    have ha_26 := ha.ext hp_26
    exact e2_fromM hen ha_26 hcall (e2_cutA_ok (e2_fa (fun al st E h hc => hn_26 al st E h hc) (e2_fa (fun al st E h hc => (EN_27 al st E h hc).ext hp_26) e2_fz))) (hC [76, 192, 195]) (X := e2x_230) ex2_230 2 ck_b86_26
  have EN_26 := e2_entL (u := 4) (j := 2) (lo := 2147483648) (hi := 2147483657) hl0 rfl rfl rfl ci_b86_26 cj_b86_26 L_26
  exact e2_from hen ha hcall (e2_cutA_ok (e2_fa (fun al st E h hc => EN_26 al st E h hc) e2_fz)) (hC [76, 192, 195]) (X := e2x_230) ex2_230 0 ck_b86_e
/-! b87 X10_read -/
def as_b87 : List ev_V := [(2, 83, 0), (11, 0, 4294967295)]
def E_b87 : e2_E := [(2147483648, 2147583648, 0, 0), (2147483651, 2147483651, 1, 0), (2147483648, 2147483688, 2, 0), (2147483648, 2147483688, 3, 0)]
def bc184 : ev_C := (50, [(11, 2147483649, 2147483654), (11, 2147483649, 2147483654), (11, 2147483649, 2147483654), (11, 2147483648, 2147483654), (11, 2147483648, 2147483654), (11, 2147483648, 2147483654), (11, 2147483648, 2147483654), (11, 2147483648, 2147483654), (11, 2147483648, 2147483654), (11, 2147483648, 2147483654), (11, 2147483648, 2147483654), (11, 2147483648, 2147483654), (11, 2147483648, 2147483654), (11, 2147483648, 2147483654), (11, 2147483648, 2147483654), (11, 2147483648, 2147483654)])
def bn719 : e2_Q1 := (bc184, bc3)
def bn720 : e2_Q2 := (bn130, bn719)
def bn721 : e2_Q3 := (bn129, bn720)
def bn722 : e2_Q4 := (bn721, bn386)
def bn723 : e2_Q5 := (bn722, bn156)
def bn724 : e2_Q6 := (bn723, bn487)
def bn725 : e2_Q7 := (bn724, bn451)
def bn726 : e2_Q8 := (bn477, bn725)
noncomputable def f_b87 : ev_H := (bn726 : e2_Q8)
noncomputable def q_b87_0 : ev_H := (bn726 : e2_Q8)
noncomputable def rs_b87 : e2_Rs := [((11, 2147483647, 2147483668), q_b87_0)]
noncomputable def s_b87 : e2_Sm := (230, as_b87, E_b87, f_b87, rs_b87)
noncomputable def S_b87 : List e2_Sm := [s_b24, s_b25, s_b26, s_b27, s_b28, s_b29, s_b30, s_b31, s_b32, s_b33, s_b34, s_b35, s_b36, s_b37, s_b38, s_b39, s_b40, s_b41, s_b42, s_b43]
noncomputable def I_b87 : List e2_In := [(216, 1, e2x_216), (217, 1, e2x_217), (227, 2, e2x_227)]
set_option maxRecDepth 1000000 in
theorem co_b87 : e2_okSB E_b87.length as_b87 f_b87 rs_b87 = true := by decide +kernel
def al_b87_26 : List ev_V := [(2, 83, 0), (11, 0, 4294967295), (1, 4, 4294967296), (9, 0, 0), (9, 0, 0)]
def E_b87_26 : e2_E := [(2147483648, 2147583648, 0, 0), (2147483651, 2147483651, 1, 0), (2147483648, 2147483688, 2, 0), (2147483648, 2147483688, 3, 0), (2147483648, 2147483657, 4, 0)]
noncomputable def h_b87_26 : ev_H := (bn726 : e2_Q8)
def al_b87_27 : List ev_V := [(2, 83, 0), (11, 0, 4294967295), (1, 4, 4294967296), (9, 0, 0), (9, 0, 0)]
def E_b87_27 : e2_E := [(2147483648, 2147583648, 0, 0), (2147483651, 2147483651, 1, 0), (2147483648, 2147483688, 2, 0), (2147483648, 2147483688, 3, 0), (2147483647, 2147483667, 4, 0)]
noncomputable def h_b87_27 : ev_H := (bn726 : e2_Q8)
def al_b87_28 : List ev_V := [(2, 83, 0), (11, 0, 4294967295), (1, 4, 4294967296), (1, 5, 4294967296), (9, 0, 0)]
def E_b87_28 : e2_E := [(2147483648, 2147583648, 0, 0), (2147483651, 2147483651, 1, 0), (2147483648, 2147483688, 2, 0), (2147483648, 2147483688, 3, 0), (2147483648, 2147483667, 4, 0), (2147483648, 2147483657, 5, 0)]
noncomputable def h_b87_28 : ev_H := (bn726 : e2_Q8)
def bn727 : e2_Q7 := (bn724, bn496)
def bn728 : e2_Q8 := (bn477, bn727)
noncomputable def h_b87_0 : ev_H := (bn728 : e2_Q8)
def bn729 : e2_Q7 := (bn724, bn514)
def bn730 : e2_Q8 := (bn477, bn729)
noncomputable def h_b87_1 : ev_H := (bn730 : e2_Q8)
def bn731 : e2_Q7 := (bn724, bn522)
def bn732 : e2_Q8 := (bn477, bn731)
noncomputable def h_b87_2 : ev_H := (bn732 : e2_Q8)
def bn733 : e2_Q7 := (bn724, bn530)
def bn734 : e2_Q8 := (bn477, bn733)
noncomputable def h_b87_3 : ev_H := (bn734 : e2_Q8)
def bn735 : e2_Q7 := (bn724, bn538)
def bn736 : e2_Q8 := (bn477, bn735)
noncomputable def h_b87_4 : ev_H := (bn736 : e2_Q8)
def bn737 : e2_Q7 := (bn724, bn546)
def bn738 : e2_Q8 := (bn477, bn737)
noncomputable def h_b87_5 : ev_H := (bn738 : e2_Q8)
def bn739 : e2_Q7 := (bn724, bn554)
def bn740 : e2_Q8 := (bn477, bn739)
noncomputable def h_b87_6 : ev_H := (bn740 : e2_Q8)
def bn741 : e2_Q7 := (bn724, bn562)
def bn742 : e2_Q8 := (bn477, bn741)
noncomputable def h_b87_7 : ev_H := (bn742 : e2_Q8)
def bn743 : e2_Q7 := (bn724, bn570)
def bn744 : e2_Q8 := (bn477, bn743)
noncomputable def h_b87_8 : ev_H := (bn744 : e2_Q8)
def bn745 : e2_Q7 := (bn724, bn578)
def bn746 : e2_Q8 := (bn477, bn745)
noncomputable def h_b87_9 : ev_H := (bn746 : e2_Q8)
def bn747 : e2_Q7 := (bn724, bn586)
def bn748 : e2_Q8 := (bn477, bn747)
noncomputable def h_b87_10 : ev_H := (bn748 : e2_Q8)
def bn749 : e2_Q7 := (bn724, bn594)
def bn750 : e2_Q8 := (bn477, bn749)
noncomputable def h_b87_11 : ev_H := (bn750 : e2_Q8)
def bn751 : e2_Q7 := (bn724, bn602)
def bn752 : e2_Q8 := (bn477, bn751)
noncomputable def h_b87_12 : ev_H := (bn752 : e2_Q8)
def bn753 : e2_Q7 := (bn724, bn610)
def bn754 : e2_Q8 := (bn477, bn753)
noncomputable def h_b87_13 : ev_H := (bn754 : e2_Q8)
def bn755 : e2_Q7 := (bn724, bn618)
def bn756 : e2_Q8 := (bn477, bn755)
noncomputable def h_b87_14 : ev_H := (bn756 : e2_Q8)
def bn757 : e2_Q7 := (bn724, bn626)
def bn758 : e2_Q8 := (bn477, bn757)
noncomputable def h_b87_15 : ev_H := (bn758 : e2_Q8)
def bn759 : e2_Q7 := (bn724, bn634)
def bn760 : e2_Q8 := (bn477, bn759)
noncomputable def h_b87_16 : ev_H := (bn760 : e2_Q8)
def bn761 : e2_Q7 := (bn724, bn642)
def bn762 : e2_Q8 := (bn477, bn761)
noncomputable def h_b87_17 : ev_H := (bn762 : e2_Q8)
def bn763 : e2_Q7 := (bn724, bn650)
def bn764 : e2_Q8 := (bn477, bn763)
noncomputable def h_b87_18 : ev_H := (bn764 : e2_Q8)
def bn765 : e2_Q7 := (bn724, bn658)
def bn766 : e2_Q8 := (bn477, bn765)
noncomputable def h_b87_19 : ev_H := (bn766 : e2_Q8)
noncomputable def h_b87_20 : ev_H := (bn726 : e2_Q8)
def bn767 : e2_Q7 := (bn724, bn666)
def bn768 : e2_Q8 := (bn477, bn767)
noncomputable def h_b87_21 : ev_H := (bn768 : e2_Q8)
noncomputable def h_b87_22 : ev_H := (bn768 : e2_Q8)
noncomputable def h_b87_23 : ev_H := (bn768 : e2_Q8)
noncomputable def h_b87_24 : ev_H := (bn768 : e2_Q8)
noncomputable def h_b87_25 : ev_H := (bn768 : e2_Q8)
noncomputable def cu_b87_120 : List e2_Cu := [([(2, 83, 0), (11, 0, 4294967295), (0, 0, 0), (0, 8, 0), (9, 0, 0)], [(2147483648, 2147583648, 0, 0), (2147483651, 2147483651, 1, 0), (2147483648, 2147483688, 2, 0), (2147483648, 2147483688, 3, 0)], h_b87_0),
  ([(2, 83, 0), (11, 0, 4294967295), (0, 1, 0), (11, 2147483648, 2147483656), (11, 2147483647, 2147483650)], [(2147483648, 2147583648, 0, 0), (2147483651, 2147483651, 1, 0), (2147483648, 2147483688, 2, 0), (2147483648, 2147483688, 3, 0)], h_b87_1),
  ([(2, 83, 0), (11, 0, 4294967295), (0, 2, 0), (11, 2147483648, 2147483656), (11, 2147483647, 2147483650)], [(2147483648, 2147583648, 0, 0), (2147483651, 2147483651, 1, 0), (2147483648, 2147483688, 2, 0), (2147483648, 2147483688, 3, 0)], h_b87_2),
  ([(2, 83, 0), (11, 0, 4294967295), (0, 3, 0), (11, 2147483648, 2147483656), (11, 2147483647, 2147483650)], [(2147483648, 2147583648, 0, 0), (2147483651, 2147483651, 1, 0), (2147483648, 2147483688, 2, 0), (2147483648, 2147483688, 3, 0)], h_b87_3),
  ([(2, 83, 0), (11, 0, 4294967295), (0, 4, 0), (11, 2147483648, 2147483656), (11, 2147483647, 2147483650)], [(2147483648, 2147583648, 0, 0), (2147483651, 2147483651, 1, 0), (2147483648, 2147483688, 2, 0), (2147483648, 2147483688, 3, 0)], h_b87_4),
  ([(2, 83, 0), (11, 0, 4294967295), (0, 5, 0), (11, 2147483648, 2147483656), (11, 2147483647, 2147483650)], [(2147483648, 2147583648, 0, 0), (2147483651, 2147483651, 1, 0), (2147483648, 2147483688, 2, 0), (2147483648, 2147483688, 3, 0)], h_b87_5),
  ([(2, 83, 0), (11, 0, 4294967295), (0, 6, 0), (11, 2147483648, 2147483656), (11, 2147483647, 2147483650)], [(2147483648, 2147583648, 0, 0), (2147483651, 2147483651, 1, 0), (2147483648, 2147483688, 2, 0), (2147483648, 2147483688, 3, 0)], h_b87_6),
  ([(2, 83, 0), (11, 0, 4294967295), (0, 7, 0), (11, 2147483648, 2147483656), (11, 2147483647, 2147483650)], [(2147483648, 2147583648, 0, 0), (2147483651, 2147483651, 1, 0), (2147483648, 2147483688, 2, 0), (2147483648, 2147483688, 3, 0)], h_b87_7),
  ([(2, 83, 0), (11, 0, 4294967295), (0, 8, 0), (11, 2147483648, 2147483656), (11, 2147483647, 2147483650)], [(2147483648, 2147583648, 0, 0), (2147483651, 2147483651, 1, 0), (2147483648, 2147483688, 2, 0), (2147483648, 2147483688, 3, 0)], h_b87_8),
  ([(2, 83, 0), (11, 0, 4294967295), (0, 9, 0), (11, 2147483648, 2147483656), (11, 2147483647, 2147483650)], [(2147483648, 2147583648, 0, 0), (2147483651, 2147483651, 1, 0), (2147483648, 2147483688, 2, 0), (2147483648, 2147483688, 3, 0)], h_b87_9),
  ([(2, 83, 0), (11, 0, 4294967295), (0, 10, 0), (11, 2147483648, 2147483656), (11, 2147483647, 2147483650)], [(2147483648, 2147583648, 0, 0), (2147483651, 2147483651, 1, 0), (2147483648, 2147483688, 2, 0), (2147483648, 2147483688, 3, 0)], h_b87_10),
  ([(2, 83, 0), (11, 0, 4294967295), (0, 11, 0), (11, 2147483648, 2147483656), (11, 2147483647, 2147483650)], [(2147483648, 2147583648, 0, 0), (2147483651, 2147483651, 1, 0), (2147483648, 2147483688, 2, 0), (2147483648, 2147483688, 3, 0)], h_b87_11),
  ([(2, 83, 0), (11, 0, 4294967295), (0, 12, 0), (11, 2147483648, 2147483656), (11, 2147483647, 2147483650)], [(2147483648, 2147583648, 0, 0), (2147483651, 2147483651, 1, 0), (2147483648, 2147483688, 2, 0), (2147483648, 2147483688, 3, 0)], h_b87_12),
  ([(2, 83, 0), (11, 0, 4294967295), (0, 13, 0), (11, 2147483648, 2147483656), (11, 2147483647, 2147483650)], [(2147483648, 2147583648, 0, 0), (2147483651, 2147483651, 1, 0), (2147483648, 2147483688, 2, 0), (2147483648, 2147483688, 3, 0)], h_b87_13),
  ([(2, 83, 0), (11, 0, 4294967295), (0, 14, 0), (11, 2147483648, 2147483656), (11, 2147483647, 2147483650)], [(2147483648, 2147583648, 0, 0), (2147483651, 2147483651, 1, 0), (2147483648, 2147483688, 2, 0), (2147483648, 2147483688, 3, 0)], h_b87_14),
  ([(2, 83, 0), (11, 0, 4294967295), (0, 15, 0), (11, 2147483648, 2147483656), (11, 2147483647, 2147483650)], [(2147483648, 2147583648, 0, 0), (2147483651, 2147483651, 1, 0), (2147483648, 2147483688, 2, 0), (2147483648, 2147483688, 3, 0)], h_b87_15),
  ([(2, 83, 0), (11, 0, 4294967295), (0, 16, 0), (11, 2147483648, 2147483656), (11, 2147483647, 2147483650)], [(2147483648, 2147583648, 0, 0), (2147483651, 2147483651, 1, 0), (2147483648, 2147483688, 2, 0), (2147483648, 2147483688, 3, 0)], h_b87_16),
  ([(2, 83, 0), (11, 0, 4294967295), (0, 17, 0), (11, 2147483648, 2147483656), (11, 2147483647, 2147483650)], [(2147483648, 2147583648, 0, 0), (2147483651, 2147483651, 1, 0), (2147483648, 2147483688, 2, 0), (2147483648, 2147483688, 3, 0)], h_b87_17),
  ([(2, 83, 0), (11, 0, 4294967295), (0, 18, 0), (11, 2147483648, 2147483656), (11, 2147483647, 2147483650)], [(2147483648, 2147583648, 0, 0), (2147483651, 2147483651, 1, 0), (2147483648, 2147483688, 2, 0), (2147483648, 2147483688, 3, 0)], h_b87_18),
  ([(2, 83, 0), (11, 0, 4294967295), (0, 19, 0), (11, 2147483648, 2147483656), (11, 2147483647, 2147483650)], [(2147483648, 2147583648, 0, 0), (2147483651, 2147483651, 1, 0), (2147483648, 2147483688, 2, 0), (2147483648, 2147483688, 3, 0)], h_b87_19),
  ([(2, 83, 0), (11, 0, 4294967295), (0, 20, 0), (11, 2147483648, 2147483656), (11, 2147483647, 2147483650)], [(2147483648, 2147583648, 0, 0), (2147483651, 2147483651, 1, 0), (2147483648, 2147483688, 2, 0), (2147483648, 2147483688, 3, 0)], h_b87_20),
  ([(2, 83, 0), (11, 0, 4294967295), (0, 21, 0), (11, 2147483648, 2147483650), (11, 2147483648, 2147483650)], [(2147483648, 2147583648, 0, 0), (2147483651, 2147483651, 1, 0), (2147483648, 2147483688, 2, 0), (2147483648, 2147483688, 3, 0)], h_b87_21),
  ([(2, 83, 0), (11, 0, 4294967295), (0, 22, 0), (11, 2147483648, 2147483650), (11, 2147483648, 2147483650)], [(2147483648, 2147583648, 0, 0), (2147483651, 2147483651, 1, 0), (2147483648, 2147483688, 2, 0), (2147483648, 2147483688, 3, 0)], h_b87_22),
  ([(2, 83, 0), (11, 0, 4294967295), (0, 23, 0), (11, 2147483648, 2147483650), (11, 2147483648, 2147483650)], [(2147483648, 2147583648, 0, 0), (2147483651, 2147483651, 1, 0), (2147483648, 2147483688, 2, 0), (2147483648, 2147483688, 3, 0)], h_b87_23),
  ([(2, 83, 0), (11, 0, 4294967295), (0, 24, 0), (11, 2147483648, 2147483650), (11, 2147483648, 2147483650)], [(2147483648, 2147583648, 0, 0), (2147483651, 2147483651, 1, 0), (2147483648, 2147483688, 2, 0), (2147483648, 2147483688, 3, 0)], h_b87_24),
  ([(2, 83, 0), (11, 0, 4294967295), (0, 25, 0), (11, 2147483648, 2147483650), (11, 2147483648, 2147483650)], [(2147483648, 2147583648, 0, 0), (2147483651, 2147483651, 1, 0), (2147483648, 2147483688, 2, 0), (2147483648, 2147483688, 3, 0)], h_b87_25)]
noncomputable def cl_b87_e : List (Nat × e2_S) := [(2, e2_cutL (al_b87_26.set 2 (11, 2147483648, 2147483657)) 4 (E_b87_26.take 4) h_b87_26)]
set_option maxRecDepth 1000000 in
theorem ck_b87_e : e2_run (e2_orG 231 83 11 4 2147483648 2147483668 as_b83 Eb_b83 f_b83 rs_b83 (e2_orG 231 83 11 4 2147483648 2147483668 as_b82 Eb_b82 f_b82 rs_b82 (e2_orG 231 83 11 4 2147483648 2147483668 as_b81 Eb_b81 f_b81 rs_b81 (e2_orG 231 83 11 4 2147483648 2147483668 as_b80 Eb_b80 f_b80 rs_b80 (e2_orG 231 83 11 4 2147483648 2147483668 as_b79 Eb_b79 f_b79 rs_b79 (e2_orG 231 83 11 4 2147483648 2147483668 as_b78 Eb_b78 f_b78 rs_b78 (e2_orG 231 83 11 4 2147483648 2147483668 as_b77 Eb_b77 f_b77 rs_b77 (e2_orG 231 83 11 4 2147483648 2147483668 as_b76 Eb_b76 f_b76 rs_b76 (e2_orG 231 83 11 4 2147483648 2147483668 as_b75 Eb_b75 f_b75 rs_b75 (e2_orG 231 83 11 4 2147483648 2147483668 as_b74 Eb_b74 f_b74 rs_b74 (e2_orG 231 83 11 4 2147483648 2147483668 as_b73 Eb_b73 f_b73 rs_b73 (e2_orG 231 83 11 4 2147483648 2147483668 as_b72 Eb_b72 f_b72 rs_b72 (e2_orG 231 83 11 4 2147483648 2147483668 as_b71 Eb_b71 f_b71 rs_b71 (e2_orG 231 83 11 4 2147483648 2147483668 as_b70 Eb_b70 f_b70 rs_b70 (e2_orG 231 83 11 4 2147483648 2147483668 as_b69 Eb_b69 f_b69 rs_b69 (e2_orG 231 83 11 4 2147483648 2147483668 as_b68 Eb_b68 f_b68 rs_b68 (e2_orG 231 83 11 4 2147483648 2147483668 as_b67 Eb_b67 f_b67 rs_b67 (e2_orG 231 83 11 4 2147483648 2147483668 as_b66 Eb_b66 f_b66 rs_b66 (e2_orG 231 83 11 4 2147483648 2147483668 as_b65 Eb_b65 f_b65 rs_b65 (e2_orG 231 83 11 4 2147483648 2147483668 as_b64 Eb_b64 f_b64 rs_b64 (e2_cal S_b87 I_b87 4000 1))))))))))))))))))))) (e2_fin rs_b87) e2x_230 (e2_bpL cl_b87_e) (e2_cutA cl_b87_e) 4000 (e2_seek e2x_230 0) (e2_al 5 as_b87) [] E_b87 f_b87 = true := by decide +kernel
noncomputable def cl_b87_26 : List (Nat × e2_S) := [(2, e2_cutL (al_b87_26.set 2 (13, 12, 2147483657)) 4 (E_b87_26.take 4) h_b87_26),
  (49, e2_cutL (al_b87_27.set 2 (11, 2147483647, 2147483667)) 4 (E_b87_27.take 4) h_b87_27)]
set_option maxRecDepth 1000000 in
theorem ck_b87_26 : e2_runM (e2_orG 231 83 11 4 2147483648 2147483668 as_b83 Eb_b83 f_b83 rs_b83 (e2_orG 231 83 11 4 2147483648 2147483668 as_b82 Eb_b82 f_b82 rs_b82 (e2_orG 231 83 11 4 2147483648 2147483668 as_b81 Eb_b81 f_b81 rs_b81 (e2_orG 231 83 11 4 2147483648 2147483668 as_b80 Eb_b80 f_b80 rs_b80 (e2_orG 231 83 11 4 2147483648 2147483668 as_b79 Eb_b79 f_b79 rs_b79 (e2_orG 231 83 11 4 2147483648 2147483668 as_b78 Eb_b78 f_b78 rs_b78 (e2_orG 231 83 11 4 2147483648 2147483668 as_b77 Eb_b77 f_b77 rs_b77 (e2_orG 231 83 11 4 2147483648 2147483668 as_b76 Eb_b76 f_b76 rs_b76 (e2_orG 231 83 11 4 2147483648 2147483668 as_b75 Eb_b75 f_b75 rs_b75 (e2_orG 231 83 11 4 2147483648 2147483668 as_b74 Eb_b74 f_b74 rs_b74 (e2_orG 231 83 11 4 2147483648 2147483668 as_b73 Eb_b73 f_b73 rs_b73 (e2_orG 231 83 11 4 2147483648 2147483668 as_b72 Eb_b72 f_b72 rs_b72 (e2_orG 231 83 11 4 2147483648 2147483668 as_b71 Eb_b71 f_b71 rs_b71 (e2_orG 231 83 11 4 2147483648 2147483668 as_b70 Eb_b70 f_b70 rs_b70 (e2_orG 231 83 11 4 2147483648 2147483668 as_b69 Eb_b69 f_b69 rs_b69 (e2_orG 231 83 11 4 2147483648 2147483668 as_b68 Eb_b68 f_b68 rs_b68 (e2_orG 231 83 11 4 2147483648 2147483668 as_b67 Eb_b67 f_b67 rs_b67 (e2_orG 231 83 11 4 2147483648 2147483668 as_b66 Eb_b66 f_b66 rs_b66 (e2_orG 231 83 11 4 2147483648 2147483668 as_b65 Eb_b65 f_b65 rs_b65 (e2_orG 231 83 11 4 2147483648 2147483668 as_b64 Eb_b64 f_b64 rs_b64 (e2_cal S_b87 I_b87 4000 1))))))))))))))))))))) (e2_fin rs_b87) e2x_230 (e2_bpL cl_b87_26) (e2_cutA cl_b87_26) 4000 (e2_seek e2x_230 2) al_b87_26 [] E_b87_26 h_b87_26 = true := by decide +kernel
set_option maxRecDepth 1000000 in
theorem ci_b87_26 : e2_idl 4 (al_b87_26.set 2 (9, 0, 0)) = true := by decide +kernel
set_option maxRecDepth 1000000 in
theorem cj_b87_26 : e2_idh 4 8 h_b87_26 = true := by decide +kernel
noncomputable def cl_b87_27 : List (Nat × e2_S) := [(120, e2_cutS cu_b87_120),
  (55, e2_cutL (al_b87_28.set 3 (11, 2147483648, 2147483657)) 5 (E_b87_28.take 5) h_b87_28)]
set_option maxRecDepth 1000000 in
theorem ck_b87_27 : e2_runM (e2_orG 231 83 11 4 2147483648 2147483668 as_b83 Eb_b83 f_b83 rs_b83 (e2_orG 231 83 11 4 2147483648 2147483668 as_b82 Eb_b82 f_b82 rs_b82 (e2_orG 231 83 11 4 2147483648 2147483668 as_b81 Eb_b81 f_b81 rs_b81 (e2_orG 231 83 11 4 2147483648 2147483668 as_b80 Eb_b80 f_b80 rs_b80 (e2_orG 231 83 11 4 2147483648 2147483668 as_b79 Eb_b79 f_b79 rs_b79 (e2_orG 231 83 11 4 2147483648 2147483668 as_b78 Eb_b78 f_b78 rs_b78 (e2_orG 231 83 11 4 2147483648 2147483668 as_b77 Eb_b77 f_b77 rs_b77 (e2_orG 231 83 11 4 2147483648 2147483668 as_b76 Eb_b76 f_b76 rs_b76 (e2_orG 231 83 11 4 2147483648 2147483668 as_b75 Eb_b75 f_b75 rs_b75 (e2_orG 231 83 11 4 2147483648 2147483668 as_b74 Eb_b74 f_b74 rs_b74 (e2_orG 231 83 11 4 2147483648 2147483668 as_b73 Eb_b73 f_b73 rs_b73 (e2_orG 231 83 11 4 2147483648 2147483668 as_b72 Eb_b72 f_b72 rs_b72 (e2_orG 231 83 11 4 2147483648 2147483668 as_b71 Eb_b71 f_b71 rs_b71 (e2_orG 231 83 11 4 2147483648 2147483668 as_b70 Eb_b70 f_b70 rs_b70 (e2_orG 231 83 11 4 2147483648 2147483668 as_b69 Eb_b69 f_b69 rs_b69 (e2_orG 231 83 11 4 2147483648 2147483668 as_b68 Eb_b68 f_b68 rs_b68 (e2_orG 231 83 11 4 2147483648 2147483668 as_b67 Eb_b67 f_b67 rs_b67 (e2_orG 231 83 11 4 2147483648 2147483668 as_b66 Eb_b66 f_b66 rs_b66 (e2_orG 231 83 11 4 2147483648 2147483668 as_b65 Eb_b65 f_b65 rs_b65 (e2_orG 231 83 11 4 2147483648 2147483668 as_b64 Eb_b64 f_b64 rs_b64 (e2_cal S_b87 I_b87 4000 1))))))))))))))))))))) (e2_fin rs_b87) e2x_230 (e2_bpL cl_b87_27) (e2_cutA cl_b87_27) 4000 (e2_seek e2x_230 49) al_b87_27 [] E_b87_27 h_b87_27 = true := by decide +kernel
set_option maxRecDepth 1000000 in
theorem ci_b87_27 : e2_idl 4 (al_b87_27.set 2 (9, 0, 0)) = true := by decide +kernel
set_option maxRecDepth 1000000 in
theorem cj_b87_27 : e2_idh 4 8 h_b87_27 = true := by decide +kernel
noncomputable def cl_b87_28 : List (Nat × e2_S) := [(49, e2_cutL (al_b87_27.set 2 (12, 12, 2147483647)) 4 (E_b87_27.take 4) h_b87_27),
  (55, e2_cutL (al_b87_28.set 3 (13, 13, 2147483657)) 5 (E_b87_28.take 5) h_b87_28)]
set_option maxRecDepth 1000000 in
theorem ck_b87_28 : e2_runM (e2_orG 231 83 11 4 2147483648 2147483668 as_b83 Eb_b83 f_b83 rs_b83 (e2_orG 231 83 11 4 2147483648 2147483668 as_b82 Eb_b82 f_b82 rs_b82 (e2_orG 231 83 11 4 2147483648 2147483668 as_b81 Eb_b81 f_b81 rs_b81 (e2_orG 231 83 11 4 2147483648 2147483668 as_b80 Eb_b80 f_b80 rs_b80 (e2_orG 231 83 11 4 2147483648 2147483668 as_b79 Eb_b79 f_b79 rs_b79 (e2_orG 231 83 11 4 2147483648 2147483668 as_b78 Eb_b78 f_b78 rs_b78 (e2_orG 231 83 11 4 2147483648 2147483668 as_b77 Eb_b77 f_b77 rs_b77 (e2_orG 231 83 11 4 2147483648 2147483668 as_b76 Eb_b76 f_b76 rs_b76 (e2_orG 231 83 11 4 2147483648 2147483668 as_b75 Eb_b75 f_b75 rs_b75 (e2_orG 231 83 11 4 2147483648 2147483668 as_b74 Eb_b74 f_b74 rs_b74 (e2_orG 231 83 11 4 2147483648 2147483668 as_b73 Eb_b73 f_b73 rs_b73 (e2_orG 231 83 11 4 2147483648 2147483668 as_b72 Eb_b72 f_b72 rs_b72 (e2_orG 231 83 11 4 2147483648 2147483668 as_b71 Eb_b71 f_b71 rs_b71 (e2_orG 231 83 11 4 2147483648 2147483668 as_b70 Eb_b70 f_b70 rs_b70 (e2_orG 231 83 11 4 2147483648 2147483668 as_b69 Eb_b69 f_b69 rs_b69 (e2_orG 231 83 11 4 2147483648 2147483668 as_b68 Eb_b68 f_b68 rs_b68 (e2_orG 231 83 11 4 2147483648 2147483668 as_b67 Eb_b67 f_b67 rs_b67 (e2_orG 231 83 11 4 2147483648 2147483668 as_b66 Eb_b66 f_b66 rs_b66 (e2_orG 231 83 11 4 2147483648 2147483668 as_b65 Eb_b65 f_b65 rs_b65 (e2_orG 231 83 11 4 2147483648 2147483668 as_b64 Eb_b64 f_b64 rs_b64 (e2_cal S_b87 I_b87 4000 1))))))))))))))))))))) (e2_fin rs_b87) e2x_230 (e2_bpL cl_b87_28) (e2_cutA cl_b87_28) 4000 (e2_seek e2x_230 55) al_b87_28 [] E_b87_28 h_b87_28 = true := by decide +kernel
set_option maxRecDepth 1000000 in
theorem ci_b87_28 : e2_idl 5 (al_b87_28.set 3 (9, 0, 0)) = true := by decide +kernel
set_option maxRecDepth 1000000 in
theorem cj_b87_28 : e2_idh 5 8 h_b87_28 = true := by decide +kernel
set_option maxRecDepth 1000000 in
theorem ck_b87_u120 : e2_cutsB (e2_orG 231 83 11 4 2147483648 2147483668 as_b83 Eb_b83 f_b83 rs_b83 (e2_orG 231 83 11 4 2147483648 2147483668 as_b82 Eb_b82 f_b82 rs_b82 (e2_orG 231 83 11 4 2147483648 2147483668 as_b81 Eb_b81 f_b81 rs_b81 (e2_orG 231 83 11 4 2147483648 2147483668 as_b80 Eb_b80 f_b80 rs_b80 (e2_orG 231 83 11 4 2147483648 2147483668 as_b79 Eb_b79 f_b79 rs_b79 (e2_orG 231 83 11 4 2147483648 2147483668 as_b78 Eb_b78 f_b78 rs_b78 (e2_orG 231 83 11 4 2147483648 2147483668 as_b77 Eb_b77 f_b77 rs_b77 (e2_orG 231 83 11 4 2147483648 2147483668 as_b76 Eb_b76 f_b76 rs_b76 (e2_orG 231 83 11 4 2147483648 2147483668 as_b75 Eb_b75 f_b75 rs_b75 (e2_orG 231 83 11 4 2147483648 2147483668 as_b74 Eb_b74 f_b74 rs_b74 (e2_orG 231 83 11 4 2147483648 2147483668 as_b73 Eb_b73 f_b73 rs_b73 (e2_orG 231 83 11 4 2147483648 2147483668 as_b72 Eb_b72 f_b72 rs_b72 (e2_orG 231 83 11 4 2147483648 2147483668 as_b71 Eb_b71 f_b71 rs_b71 (e2_orG 231 83 11 4 2147483648 2147483668 as_b70 Eb_b70 f_b70 rs_b70 (e2_orG 231 83 11 4 2147483648 2147483668 as_b69 Eb_b69 f_b69 rs_b69 (e2_orG 231 83 11 4 2147483648 2147483668 as_b68 Eb_b68 f_b68 rs_b68 (e2_orG 231 83 11 4 2147483648 2147483668 as_b67 Eb_b67 f_b67 rs_b67 (e2_orG 231 83 11 4 2147483648 2147483668 as_b66 Eb_b66 f_b66 rs_b66 (e2_orG 231 83 11 4 2147483648 2147483668 as_b65 Eb_b65 f_b65 rs_b65 (e2_orG 231 83 11 4 2147483648 2147483668 as_b64 Eb_b64 f_b64 rs_b64 (e2_cal S_b87 I_b87 4000 1))))))))))))))))))))) (e2_fin rs_b87) e2x_230 120 4000 cu_b87_120 = true := by decide +kernel
set_option maxRecDepth 1000000 in
theorem cs_b87 (hen : en_ok) (l : Launch) : e2_smOk l 5 s_b87 := by
  refine e2_conC (H := 4) (C := evd_230) (call := (e2_orG 231 83 11 4 2147483648 2147483668 as_b83 Eb_b83 f_b83 rs_b83 (e2_orG 231 83 11 4 2147483648 2147483668 as_b82 Eb_b82 f_b82 rs_b82 (e2_orG 231 83 11 4 2147483648 2147483668 as_b81 Eb_b81 f_b81 rs_b81 (e2_orG 231 83 11 4 2147483648 2147483668 as_b80 Eb_b80 f_b80 rs_b80 (e2_orG 231 83 11 4 2147483648 2147483668 as_b79 Eb_b79 f_b79 rs_b79 (e2_orG 231 83 11 4 2147483648 2147483668 as_b78 Eb_b78 f_b78 rs_b78 (e2_orG 231 83 11 4 2147483648 2147483668 as_b77 Eb_b77 f_b77 rs_b77 (e2_orG 231 83 11 4 2147483648 2147483668 as_b76 Eb_b76 f_b76 rs_b76 (e2_orG 231 83 11 4 2147483648 2147483668 as_b75 Eb_b75 f_b75 rs_b75 (e2_orG 231 83 11 4 2147483648 2147483668 as_b74 Eb_b74 f_b74 rs_b74 (e2_orG 231 83 11 4 2147483648 2147483668 as_b73 Eb_b73 f_b73 rs_b73 (e2_orG 231 83 11 4 2147483648 2147483668 as_b72 Eb_b72 f_b72 rs_b72 (e2_orG 231 83 11 4 2147483648 2147483668 as_b71 Eb_b71 f_b71 rs_b71 (e2_orG 231 83 11 4 2147483648 2147483668 as_b70 Eb_b70 f_b70 rs_b70 (e2_orG 231 83 11 4 2147483648 2147483668 as_b69 Eb_b69 f_b69 rs_b69 (e2_orG 231 83 11 4 2147483648 2147483668 as_b68 Eb_b68 f_b68 rs_b68 (e2_orG 231 83 11 4 2147483648 2147483668 as_b67 Eb_b67 f_b67 rs_b67 (e2_orG 231 83 11 4 2147483648 2147483668 as_b66 Eb_b66 f_b66 rs_b66 (e2_orG 231 83 11 4 2147483648 2147483668 as_b65 Eb_b65 f_b65 rs_b65 (e2_orG 231 83 11 4 2147483648 2147483668 as_b64 Eb_b64 f_b64 rs_b64 (e2_cal S_b87 I_b87 4000 1)))))))))))))))))))))) ei_230 (fun d hd => (e2_orG_ok (k0 := 231) (a := 83) (j := 11) (n := 4) (lo := 2147483648) (hi := 2147483668) (as0 := as_b83) (Eb := Eb_b83) (f := f_b83) (res := rs_b83) (e2_orG_ok (k0 := 231) (a := 83) (j := 11) (n := 4) (lo := 2147483648) (hi := 2147483668) (as0 := as_b82) (Eb := Eb_b82) (f := f_b82) (res := rs_b82) (e2_orG_ok (k0 := 231) (a := 83) (j := 11) (n := 4) (lo := 2147483648) (hi := 2147483668) (as0 := as_b81) (Eb := Eb_b81) (f := f_b81) (res := rs_b81) (e2_orG_ok (k0 := 231) (a := 83) (j := 11) (n := 4) (lo := 2147483648) (hi := 2147483668) (as0 := as_b80) (Eb := Eb_b80) (f := f_b80) (res := rs_b80) (e2_orG_ok (k0 := 231) (a := 83) (j := 11) (n := 4) (lo := 2147483648) (hi := 2147483668) (as0 := as_b79) (Eb := Eb_b79) (f := f_b79) (res := rs_b79) (e2_orG_ok (k0 := 231) (a := 83) (j := 11) (n := 4) (lo := 2147483648) (hi := 2147483668) (as0 := as_b78) (Eb := Eb_b78) (f := f_b78) (res := rs_b78) (e2_orG_ok (k0 := 231) (a := 83) (j := 11) (n := 4) (lo := 2147483648) (hi := 2147483668) (as0 := as_b77) (Eb := Eb_b77) (f := f_b77) (res := rs_b77) (e2_orG_ok (k0 := 231) (a := 83) (j := 11) (n := 4) (lo := 2147483648) (hi := 2147483668) (as0 := as_b76) (Eb := Eb_b76) (f := f_b76) (res := rs_b76) (e2_orG_ok (k0 := 231) (a := 83) (j := 11) (n := 4) (lo := 2147483648) (hi := 2147483668) (as0 := as_b75) (Eb := Eb_b75) (f := f_b75) (res := rs_b75) (e2_orG_ok (k0 := 231) (a := 83) (j := 11) (n := 4) (lo := 2147483648) (hi := 2147483668) (as0 := as_b74) (Eb := Eb_b74) (f := f_b74) (res := rs_b74) (e2_orG_ok (k0 := 231) (a := 83) (j := 11) (n := 4) (lo := 2147483648) (hi := 2147483668) (as0 := as_b73) (Eb := Eb_b73) (f := f_b73) (res := rs_b73) (e2_orG_ok (k0 := 231) (a := 83) (j := 11) (n := 4) (lo := 2147483648) (hi := 2147483668) (as0 := as_b72) (Eb := Eb_b72) (f := f_b72) (res := rs_b72) (e2_orG_ok (k0 := 231) (a := 83) (j := 11) (n := 4) (lo := 2147483648) (hi := 2147483668) (as0 := as_b71) (Eb := Eb_b71) (f := f_b71) (res := rs_b71) (e2_orG_ok (k0 := 231) (a := 83) (j := 11) (n := 4) (lo := 2147483648) (hi := 2147483668) (as0 := as_b70) (Eb := Eb_b70) (f := f_b70) (res := rs_b70) (e2_orG_ok (k0 := 231) (a := 83) (j := 11) (n := 4) (lo := 2147483648) (hi := 2147483668) (as0 := as_b69) (Eb := Eb_b69) (f := f_b69) (res := rs_b69) (e2_orG_ok (k0 := 231) (a := 83) (j := 11) (n := 4) (lo := 2147483648) (hi := 2147483668) (as0 := as_b68) (Eb := Eb_b68) (f := f_b68) (res := rs_b68) (e2_orG_ok (k0 := 231) (a := 83) (j := 11) (n := 4) (lo := 2147483648) (hi := 2147483668) (as0 := as_b67) (Eb := Eb_b67) (f := f_b67) (res := rs_b67) (e2_orG_ok (k0 := 231) (a := 83) (j := 11) (n := 4) (lo := 2147483648) (hi := 2147483668) (as0 := as_b66) (Eb := Eb_b66) (f := f_b66) (res := rs_b66) (e2_orG_ok (k0 := 231) (a := 83) (j := 11) (n := 4) (lo := 2147483648) (hi := 2147483668) (as0 := as_b65) (Eb := Eb_b65) (f := f_b65) (res := rs_b65) (e2_orG_ok (k0 := 231) (a := 83) (j := 11) (n := 4) (lo := 2147483648) (hi := 2147483668) (as0 := as_b64) (Eb := Eb_b64) (f := f_b64) (res := rs_b64) (e2_cal_ok hen (e2_fa (cs_b24 hen l) (e2_fa (cs_b25 hen l) (e2_fa (cs_b26 hen l) (e2_fa (cs_b27 hen l) (e2_fa (cs_b28 hen l) (e2_fa (cs_b29 hen l) (e2_fa (cs_b30 hen l) (e2_fa (cs_b31 hen l) (e2_fa (cs_b32 hen l) (e2_fa (cs_b33 hen l) (e2_fa (cs_b34 hen l) (e2_fa (cs_b35 hen l) (e2_fa (cs_b36 hen l) (e2_fa (cs_b37 hen l) (e2_fa (cs_b38 hen l) (e2_fa (cs_b39 hen l) (e2_fa (cs_b40 hen l) (e2_fa (cs_b41 hen l) (e2_fa (cs_b42 hen l) (e2_fa (cs_b43 hen l) e2_fz)))))))))))))))))))) (e2_fa ein_216 (e2_fa ein_217 (e2_fa ein_227 e2_fz))) 1 d (by omega)) rfl (by decide +kernel) (fun M hM => (cs_b64 hen l).2 M hM d (by omega)) (e2_okGB_ok cog_b64)) rfl (by decide +kernel) (fun M hM => (cs_b65 hen l).2 M hM d (by omega)) (e2_okGB_ok cog_b65)) rfl (by decide +kernel) (fun M hM => (cs_b66 hen l).2 M hM d (by omega)) (e2_okGB_ok cog_b66)) rfl (by decide +kernel) (fun M hM => (cs_b67 hen l).2 M hM d (by omega)) (e2_okGB_ok cog_b67)) rfl (by decide +kernel) (fun M hM => (cs_b68 hen l).2 M hM d (by omega)) (e2_okGB_ok cog_b68)) rfl (by decide +kernel) (fun M hM => (cs_b69 hen l).2 M hM d (by omega)) (e2_okGB_ok cog_b69)) rfl (by decide +kernel) (fun M hM => (cs_b70 hen l).2 M hM d (by omega)) (e2_okGB_ok cog_b70)) rfl (by decide +kernel) (fun M hM => (cs_b71 hen l).2 M hM d (by omega)) (e2_okGB_ok cog_b71)) rfl (by decide +kernel) (fun M hM => (cs_b72 hen l).2 M hM d (by omega)) (e2_okGB_ok cog_b72)) rfl (by decide +kernel) (fun M hM => (cs_b73 hen l).2 M hM d (by omega)) (e2_okGB_ok cog_b73)) rfl (by decide +kernel) (fun M hM => (cs_b74 hen l).2 M hM d (by omega)) (e2_okGB_ok cog_b74)) rfl (by decide +kernel) (fun M hM => (cs_b75 hen l).2 M hM d (by omega)) (e2_okGB_ok cog_b75)) rfl (by decide +kernel) (fun M hM => (cs_b76 hen l).2 M hM d (by omega)) (e2_okGB_ok cog_b76)) rfl (by decide +kernel) (fun M hM => (cs_b77 hen l).2 M hM d (by omega)) (e2_okGB_ok cog_b77)) rfl (by decide +kernel) (fun M hM => (cs_b78 hen l).2 M hM d (by omega)) (e2_okGB_ok cog_b78)) rfl (by decide +kernel) (fun M hM => (cs_b79 hen l).2 M hM d (by omega)) (e2_okGB_ok cog_b79)) rfl (by decide +kernel) (fun M hM => (cs_b80 hen l).2 M hM d (by omega)) (e2_okGB_ok cog_b80)) rfl (by decide +kernel) (fun M hM => (cs_b81 hen l).2 M hM d (by omega)) (e2_okGB_ok cog_b81)) rfl (by decide +kernel) (fun M hM => (cs_b82 hen l).2 M hM d (by omega)) (e2_okGB_ok cog_b82)) rfl (by decide +kernel) (fun M hM => (cs_b83 hen l).2 M hM d (by omega)) (e2_okGB_ok cog_b83))) (by decide) co_b87 fun M d _ hC hcall p e R s m args below meth c Q D cA A ads r0 ha hl0 => ?_
  have EN_120 := e2_cutS_ok (bp := 120) (cuts := cu_b87_120) (e2_cuts_len hl0 (by decide +kernel)) (e2_cuts_ok hen ha hcall (hC [76, 192, 195]) (X := e2x_230) ex2_230 (e2_cuts_len hl0 (by decide +kernel)) ck_b87_u120)
  have L_27 : e2_gdM M p l e R s m args below meth c Q D cA A ads r0 49 al_b87_27 [] E_b87_27 h_b87_27 := by
    refine e2_indD (u := 4) (j := 2) (lo := 2147483647) (hi := 2147483667) hl0 (by decide) rfl rfl rfl ci_b87_27 cj_b87_27 ?_
    intro r_27 k_27 hk_27 hp_27 hs_27 hn_27
    have hl_27 : r_27.length ≤ 5 := hs_27.len rfl
    have ha_27 := ha.ext hp_27
    have L_28 : e2_gdM M p l e R s m args below meth c Q D cA A ads r_27 55 al_b87_28 [] E_b87_28 h_b87_28 := by
      refine e2_indL (u := 5) (j := 3) (lo := 2147483648) (hi := 2147483657) (b := 5) (dd := 0) hl_27 (by decide) rfl rfl (Or.inr ⟨rfl, rfl⟩) rfl ci_b87_28 cj_b87_28 ?_
      intro r_28 k_28 hk_28 hp_28 hs_28 hn_28
      have hl_28 : r_28.length ≤ 6 := hs_28.len rfl
      have ha_28 := ha_27.ext hp_28
      exact e2_fromM hen ha_28 hcall (e2_cutA_ok (e2_fa (fun al st E h hc => (hn_27 al st E h hc).ext hp_28) (e2_fa (fun al st E h hc => hn_28 al st E h hc) e2_fz))) (hC [76, 192, 195]) (X := e2x_230) ex2_230 55 ck_b87_28
    have EN_28 := e2_entL (u := 5) (j := 3) (lo := 2147483648) (hi := 2147483657) hl_27 rfl rfl rfl ci_b87_28 cj_b87_28 L_28
    exact e2_fromM hen ha_27 hcall (e2_cutA_ok (e2_fa (fun al st E h hc => (EN_120 al st E h hc).ext hp_27) (e2_fa (fun al st E h hc => EN_28 al st E h hc) e2_fz))) (hC [76, 192, 195]) (X := e2x_230) ex2_230 49 ck_b87_27
  have EN_27 := e2_entL (u := 4) (j := 2) (lo := 2147483647) (hi := 2147483667) hl0 rfl rfl rfl ci_b87_27 cj_b87_27 L_27
  have L_26 : e2_gdM M p l e R s m args below meth c Q D cA A ads r0 2 al_b87_26 [] E_b87_26 h_b87_26 := by
    refine e2_indL (u := 4) (j := 2) (lo := 2147483648) (hi := 2147483657) (b := 4) (dd := 0) hl0 (by decide) rfl rfl (Or.inr ⟨rfl, rfl⟩) rfl ci_b87_26 cj_b87_26 ?_
    intro r_26 k_26 hk_26 hp_26 hs_26 hn_26
    have hl_26 : r_26.length ≤ 5 := hs_26.len rfl
    have ha_26 := ha.ext hp_26
    exact e2_fromM hen ha_26 hcall (e2_cutA_ok (e2_fa (fun al st E h hc => hn_26 al st E h hc) (e2_fa (fun al st E h hc => (EN_27 al st E h hc).ext hp_26) e2_fz))) (hC [76, 192, 195]) (X := e2x_230) ex2_230 2 ck_b87_26
  have EN_26 := e2_entL (u := 4) (j := 2) (lo := 2147483648) (hi := 2147483657) hl0 rfl rfl rfl ci_b87_26 cj_b87_26 L_26
  exact e2_from hen ha hcall (e2_cutA_ok (e2_fa (fun al st E h hc => EN_26 al st E h hc) e2_fz)) (hC [76, 192, 195]) (X := e2x_230) ex2_230 0 ck_b87_e
/-! b88 X10_read -/
def as_b88 : List ev_V := [(2, 83, 0), (11, 0, 4294967295)]
def E_b88 : e2_E := [(2147483648, 2147583648, 0, 0), (2147483652, 2147483652, 1, 0), (2147483648, 2147483688, 2, 0), (2147483648, 2147483688, 3, 0)]
def bc185 : ev_C := (50, [(11, 2147483649, 2147483654), (11, 2147483649, 2147483654), (11, 2147483649, 2147483654), (11, 2147483649, 2147483654), (11, 2147483648, 2147483654), (11, 2147483648, 2147483654), (11, 2147483648, 2147483654), (11, 2147483648, 2147483654), (11, 2147483648, 2147483654), (11, 2147483648, 2147483654), (11, 2147483648, 2147483654), (11, 2147483648, 2147483654), (11, 2147483648, 2147483654), (11, 2147483648, 2147483654), (11, 2147483648, 2147483654), (11, 2147483648, 2147483654)])
def bn769 : e2_Q1 := (bc185, bc3)
def bn770 : e2_Q2 := (bn130, bn769)
def bn771 : e2_Q3 := (bn129, bn770)
def bn772 : e2_Q4 := (bn771, bn386)
def bn773 : e2_Q5 := (bn772, bn156)
def bn774 : e2_Q6 := (bn773, bn487)
def bn775 : e2_Q7 := (bn774, bn451)
def bn776 : e2_Q8 := (bn477, bn775)
noncomputable def f_b88 : ev_H := (bn776 : e2_Q8)
noncomputable def q_b88_0 : ev_H := (bn776 : e2_Q8)
noncomputable def rs_b88 : e2_Rs := [((11, 2147483647, 2147483668), q_b88_0)]
noncomputable def s_b88 : e2_Sm := (230, as_b88, E_b88, f_b88, rs_b88)
noncomputable def S_b88 : List e2_Sm := [s_b24, s_b25, s_b26, s_b27, s_b28, s_b29, s_b30, s_b31, s_b32, s_b33, s_b34, s_b35, s_b36, s_b37, s_b38, s_b39, s_b40, s_b41, s_b42, s_b43]
noncomputable def I_b88 : List e2_In := [(216, 1, e2x_216), (217, 1, e2x_217), (227, 2, e2x_227)]
set_option maxRecDepth 1000000 in
theorem co_b88 : e2_okSB E_b88.length as_b88 f_b88 rs_b88 = true := by decide +kernel
def al_b88_26 : List ev_V := [(2, 83, 0), (11, 0, 4294967295), (1, 4, 4294967296), (9, 0, 0), (9, 0, 0)]
def E_b88_26 : e2_E := [(2147483648, 2147583648, 0, 0), (2147483652, 2147483652, 1, 0), (2147483648, 2147483688, 2, 0), (2147483648, 2147483688, 3, 0), (2147483648, 2147483657, 4, 0)]
noncomputable def h_b88_26 : ev_H := (bn776 : e2_Q8)
def al_b88_27 : List ev_V := [(2, 83, 0), (11, 0, 4294967295), (1, 4, 4294967296), (9, 0, 0), (9, 0, 0)]
def E_b88_27 : e2_E := [(2147483648, 2147583648, 0, 0), (2147483652, 2147483652, 1, 0), (2147483648, 2147483688, 2, 0), (2147483648, 2147483688, 3, 0), (2147483647, 2147483667, 4, 0)]
noncomputable def h_b88_27 : ev_H := (bn776 : e2_Q8)
def al_b88_28 : List ev_V := [(2, 83, 0), (11, 0, 4294967295), (1, 4, 4294967296), (1, 5, 4294967296), (9, 0, 0)]
def E_b88_28 : e2_E := [(2147483648, 2147583648, 0, 0), (2147483652, 2147483652, 1, 0), (2147483648, 2147483688, 2, 0), (2147483648, 2147483688, 3, 0), (2147483648, 2147483667, 4, 0), (2147483648, 2147483657, 5, 0)]
noncomputable def h_b88_28 : ev_H := (bn776 : e2_Q8)
def bn777 : e2_Q7 := (bn774, bn496)
def bn778 : e2_Q8 := (bn477, bn777)
noncomputable def h_b88_0 : ev_H := (bn778 : e2_Q8)
def bn779 : e2_Q7 := (bn774, bn514)
def bn780 : e2_Q8 := (bn477, bn779)
noncomputable def h_b88_1 : ev_H := (bn780 : e2_Q8)
def bn781 : e2_Q7 := (bn774, bn522)
def bn782 : e2_Q8 := (bn477, bn781)
noncomputable def h_b88_2 : ev_H := (bn782 : e2_Q8)
def bn783 : e2_Q7 := (bn774, bn530)
def bn784 : e2_Q8 := (bn477, bn783)
noncomputable def h_b88_3 : ev_H := (bn784 : e2_Q8)
def bn785 : e2_Q7 := (bn774, bn538)
def bn786 : e2_Q8 := (bn477, bn785)
noncomputable def h_b88_4 : ev_H := (bn786 : e2_Q8)
def bn787 : e2_Q7 := (bn774, bn546)
def bn788 : e2_Q8 := (bn477, bn787)
noncomputable def h_b88_5 : ev_H := (bn788 : e2_Q8)
def bn789 : e2_Q7 := (bn774, bn554)
def bn790 : e2_Q8 := (bn477, bn789)
noncomputable def h_b88_6 : ev_H := (bn790 : e2_Q8)
def bn791 : e2_Q7 := (bn774, bn562)
def bn792 : e2_Q8 := (bn477, bn791)
noncomputable def h_b88_7 : ev_H := (bn792 : e2_Q8)
def bn793 : e2_Q7 := (bn774, bn570)
def bn794 : e2_Q8 := (bn477, bn793)
noncomputable def h_b88_8 : ev_H := (bn794 : e2_Q8)
def bn795 : e2_Q7 := (bn774, bn578)
def bn796 : e2_Q8 := (bn477, bn795)
noncomputable def h_b88_9 : ev_H := (bn796 : e2_Q8)
def bn797 : e2_Q7 := (bn774, bn586)
def bn798 : e2_Q8 := (bn477, bn797)
noncomputable def h_b88_10 : ev_H := (bn798 : e2_Q8)
def bn799 : e2_Q7 := (bn774, bn594)
def bn800 : e2_Q8 := (bn477, bn799)
noncomputable def h_b88_11 : ev_H := (bn800 : e2_Q8)
def bn801 : e2_Q7 := (bn774, bn602)
def bn802 : e2_Q8 := (bn477, bn801)
noncomputable def h_b88_12 : ev_H := (bn802 : e2_Q8)
def bn803 : e2_Q7 := (bn774, bn610)
def bn804 : e2_Q8 := (bn477, bn803)
noncomputable def h_b88_13 : ev_H := (bn804 : e2_Q8)
def bn805 : e2_Q7 := (bn774, bn618)
def bn806 : e2_Q8 := (bn477, bn805)
noncomputable def h_b88_14 : ev_H := (bn806 : e2_Q8)
def bn807 : e2_Q7 := (bn774, bn626)
def bn808 : e2_Q8 := (bn477, bn807)
noncomputable def h_b88_15 : ev_H := (bn808 : e2_Q8)
def bn809 : e2_Q7 := (bn774, bn634)
def bn810 : e2_Q8 := (bn477, bn809)
noncomputable def h_b88_16 : ev_H := (bn810 : e2_Q8)
def bn811 : e2_Q7 := (bn774, bn642)
def bn812 : e2_Q8 := (bn477, bn811)
noncomputable def h_b88_17 : ev_H := (bn812 : e2_Q8)
def bn813 : e2_Q7 := (bn774, bn650)
def bn814 : e2_Q8 := (bn477, bn813)
noncomputable def h_b88_18 : ev_H := (bn814 : e2_Q8)
def bn815 : e2_Q7 := (bn774, bn658)
def bn816 : e2_Q8 := (bn477, bn815)
noncomputable def h_b88_19 : ev_H := (bn816 : e2_Q8)
noncomputable def h_b88_20 : ev_H := (bn776 : e2_Q8)
def bn817 : e2_Q7 := (bn774, bn666)
def bn818 : e2_Q8 := (bn477, bn817)
noncomputable def h_b88_21 : ev_H := (bn818 : e2_Q8)
noncomputable def h_b88_22 : ev_H := (bn818 : e2_Q8)
noncomputable def h_b88_23 : ev_H := (bn818 : e2_Q8)
noncomputable def h_b88_24 : ev_H := (bn818 : e2_Q8)
noncomputable def h_b88_25 : ev_H := (bn818 : e2_Q8)
noncomputable def cu_b88_120 : List e2_Cu := [([(2, 83, 0), (11, 0, 4294967295), (0, 0, 0), (0, 8, 0), (9, 0, 0)], [(2147483648, 2147583648, 0, 0), (2147483652, 2147483652, 1, 0), (2147483648, 2147483688, 2, 0), (2147483648, 2147483688, 3, 0)], h_b88_0),
  ([(2, 83, 0), (11, 0, 4294967295), (0, 1, 0), (11, 2147483648, 2147483656), (11, 2147483647, 2147483651)], [(2147483648, 2147583648, 0, 0), (2147483652, 2147483652, 1, 0), (2147483648, 2147483688, 2, 0), (2147483648, 2147483688, 3, 0)], h_b88_1),
  ([(2, 83, 0), (11, 0, 4294967295), (0, 2, 0), (11, 2147483648, 2147483656), (11, 2147483647, 2147483651)], [(2147483648, 2147583648, 0, 0), (2147483652, 2147483652, 1, 0), (2147483648, 2147483688, 2, 0), (2147483648, 2147483688, 3, 0)], h_b88_2),
  ([(2, 83, 0), (11, 0, 4294967295), (0, 3, 0), (11, 2147483648, 2147483656), (11, 2147483647, 2147483651)], [(2147483648, 2147583648, 0, 0), (2147483652, 2147483652, 1, 0), (2147483648, 2147483688, 2, 0), (2147483648, 2147483688, 3, 0)], h_b88_3),
  ([(2, 83, 0), (11, 0, 4294967295), (0, 4, 0), (11, 2147483648, 2147483656), (11, 2147483647, 2147483651)], [(2147483648, 2147583648, 0, 0), (2147483652, 2147483652, 1, 0), (2147483648, 2147483688, 2, 0), (2147483648, 2147483688, 3, 0)], h_b88_4),
  ([(2, 83, 0), (11, 0, 4294967295), (0, 5, 0), (11, 2147483648, 2147483656), (11, 2147483647, 2147483651)], [(2147483648, 2147583648, 0, 0), (2147483652, 2147483652, 1, 0), (2147483648, 2147483688, 2, 0), (2147483648, 2147483688, 3, 0)], h_b88_5),
  ([(2, 83, 0), (11, 0, 4294967295), (0, 6, 0), (11, 2147483648, 2147483656), (11, 2147483647, 2147483651)], [(2147483648, 2147583648, 0, 0), (2147483652, 2147483652, 1, 0), (2147483648, 2147483688, 2, 0), (2147483648, 2147483688, 3, 0)], h_b88_6),
  ([(2, 83, 0), (11, 0, 4294967295), (0, 7, 0), (11, 2147483648, 2147483656), (11, 2147483647, 2147483651)], [(2147483648, 2147583648, 0, 0), (2147483652, 2147483652, 1, 0), (2147483648, 2147483688, 2, 0), (2147483648, 2147483688, 3, 0)], h_b88_7),
  ([(2, 83, 0), (11, 0, 4294967295), (0, 8, 0), (11, 2147483648, 2147483656), (11, 2147483647, 2147483651)], [(2147483648, 2147583648, 0, 0), (2147483652, 2147483652, 1, 0), (2147483648, 2147483688, 2, 0), (2147483648, 2147483688, 3, 0)], h_b88_8),
  ([(2, 83, 0), (11, 0, 4294967295), (0, 9, 0), (11, 2147483648, 2147483656), (11, 2147483647, 2147483651)], [(2147483648, 2147583648, 0, 0), (2147483652, 2147483652, 1, 0), (2147483648, 2147483688, 2, 0), (2147483648, 2147483688, 3, 0)], h_b88_9),
  ([(2, 83, 0), (11, 0, 4294967295), (0, 10, 0), (11, 2147483648, 2147483656), (11, 2147483647, 2147483651)], [(2147483648, 2147583648, 0, 0), (2147483652, 2147483652, 1, 0), (2147483648, 2147483688, 2, 0), (2147483648, 2147483688, 3, 0)], h_b88_10),
  ([(2, 83, 0), (11, 0, 4294967295), (0, 11, 0), (11, 2147483648, 2147483656), (11, 2147483647, 2147483651)], [(2147483648, 2147583648, 0, 0), (2147483652, 2147483652, 1, 0), (2147483648, 2147483688, 2, 0), (2147483648, 2147483688, 3, 0)], h_b88_11),
  ([(2, 83, 0), (11, 0, 4294967295), (0, 12, 0), (11, 2147483648, 2147483656), (11, 2147483647, 2147483651)], [(2147483648, 2147583648, 0, 0), (2147483652, 2147483652, 1, 0), (2147483648, 2147483688, 2, 0), (2147483648, 2147483688, 3, 0)], h_b88_12),
  ([(2, 83, 0), (11, 0, 4294967295), (0, 13, 0), (11, 2147483648, 2147483656), (11, 2147483647, 2147483651)], [(2147483648, 2147583648, 0, 0), (2147483652, 2147483652, 1, 0), (2147483648, 2147483688, 2, 0), (2147483648, 2147483688, 3, 0)], h_b88_13),
  ([(2, 83, 0), (11, 0, 4294967295), (0, 14, 0), (11, 2147483648, 2147483656), (11, 2147483647, 2147483651)], [(2147483648, 2147583648, 0, 0), (2147483652, 2147483652, 1, 0), (2147483648, 2147483688, 2, 0), (2147483648, 2147483688, 3, 0)], h_b88_14),
  ([(2, 83, 0), (11, 0, 4294967295), (0, 15, 0), (11, 2147483648, 2147483656), (11, 2147483647, 2147483651)], [(2147483648, 2147583648, 0, 0), (2147483652, 2147483652, 1, 0), (2147483648, 2147483688, 2, 0), (2147483648, 2147483688, 3, 0)], h_b88_15),
  ([(2, 83, 0), (11, 0, 4294967295), (0, 16, 0), (11, 2147483648, 2147483656), (11, 2147483647, 2147483651)], [(2147483648, 2147583648, 0, 0), (2147483652, 2147483652, 1, 0), (2147483648, 2147483688, 2, 0), (2147483648, 2147483688, 3, 0)], h_b88_16),
  ([(2, 83, 0), (11, 0, 4294967295), (0, 17, 0), (11, 2147483648, 2147483656), (11, 2147483647, 2147483651)], [(2147483648, 2147583648, 0, 0), (2147483652, 2147483652, 1, 0), (2147483648, 2147483688, 2, 0), (2147483648, 2147483688, 3, 0)], h_b88_17),
  ([(2, 83, 0), (11, 0, 4294967295), (0, 18, 0), (11, 2147483648, 2147483656), (11, 2147483647, 2147483651)], [(2147483648, 2147583648, 0, 0), (2147483652, 2147483652, 1, 0), (2147483648, 2147483688, 2, 0), (2147483648, 2147483688, 3, 0)], h_b88_18),
  ([(2, 83, 0), (11, 0, 4294967295), (0, 19, 0), (11, 2147483648, 2147483656), (11, 2147483647, 2147483651)], [(2147483648, 2147583648, 0, 0), (2147483652, 2147483652, 1, 0), (2147483648, 2147483688, 2, 0), (2147483648, 2147483688, 3, 0)], h_b88_19),
  ([(2, 83, 0), (11, 0, 4294967295), (0, 20, 0), (11, 2147483648, 2147483656), (11, 2147483647, 2147483651)], [(2147483648, 2147583648, 0, 0), (2147483652, 2147483652, 1, 0), (2147483648, 2147483688, 2, 0), (2147483648, 2147483688, 3, 0)], h_b88_20),
  ([(2, 83, 0), (11, 0, 4294967295), (0, 21, 0), (11, 2147483648, 2147483651), (11, 2147483648, 2147483651)], [(2147483648, 2147583648, 0, 0), (2147483652, 2147483652, 1, 0), (2147483648, 2147483688, 2, 0), (2147483648, 2147483688, 3, 0)], h_b88_21),
  ([(2, 83, 0), (11, 0, 4294967295), (0, 22, 0), (11, 2147483648, 2147483651), (11, 2147483648, 2147483651)], [(2147483648, 2147583648, 0, 0), (2147483652, 2147483652, 1, 0), (2147483648, 2147483688, 2, 0), (2147483648, 2147483688, 3, 0)], h_b88_22),
  ([(2, 83, 0), (11, 0, 4294967295), (0, 23, 0), (11, 2147483648, 2147483651), (11, 2147483648, 2147483651)], [(2147483648, 2147583648, 0, 0), (2147483652, 2147483652, 1, 0), (2147483648, 2147483688, 2, 0), (2147483648, 2147483688, 3, 0)], h_b88_23),
  ([(2, 83, 0), (11, 0, 4294967295), (0, 24, 0), (11, 2147483648, 2147483651), (11, 2147483648, 2147483651)], [(2147483648, 2147583648, 0, 0), (2147483652, 2147483652, 1, 0), (2147483648, 2147483688, 2, 0), (2147483648, 2147483688, 3, 0)], h_b88_24),
  ([(2, 83, 0), (11, 0, 4294967295), (0, 25, 0), (11, 2147483648, 2147483651), (11, 2147483648, 2147483651)], [(2147483648, 2147583648, 0, 0), (2147483652, 2147483652, 1, 0), (2147483648, 2147483688, 2, 0), (2147483648, 2147483688, 3, 0)], h_b88_25)]
noncomputable def cl_b88_e : List (Nat × e2_S) := [(2, e2_cutL (al_b88_26.set 2 (11, 2147483648, 2147483657)) 4 (E_b88_26.take 4) h_b88_26)]
set_option maxRecDepth 1000000 in
theorem ck_b88_e : e2_run (e2_orG 231 83 11 4 2147483648 2147483668 as_b83 Eb_b83 f_b83 rs_b83 (e2_orG 231 83 11 4 2147483648 2147483668 as_b82 Eb_b82 f_b82 rs_b82 (e2_orG 231 83 11 4 2147483648 2147483668 as_b81 Eb_b81 f_b81 rs_b81 (e2_orG 231 83 11 4 2147483648 2147483668 as_b80 Eb_b80 f_b80 rs_b80 (e2_orG 231 83 11 4 2147483648 2147483668 as_b79 Eb_b79 f_b79 rs_b79 (e2_orG 231 83 11 4 2147483648 2147483668 as_b78 Eb_b78 f_b78 rs_b78 (e2_orG 231 83 11 4 2147483648 2147483668 as_b77 Eb_b77 f_b77 rs_b77 (e2_orG 231 83 11 4 2147483648 2147483668 as_b76 Eb_b76 f_b76 rs_b76 (e2_orG 231 83 11 4 2147483648 2147483668 as_b75 Eb_b75 f_b75 rs_b75 (e2_orG 231 83 11 4 2147483648 2147483668 as_b74 Eb_b74 f_b74 rs_b74 (e2_orG 231 83 11 4 2147483648 2147483668 as_b73 Eb_b73 f_b73 rs_b73 (e2_orG 231 83 11 4 2147483648 2147483668 as_b72 Eb_b72 f_b72 rs_b72 (e2_orG 231 83 11 4 2147483648 2147483668 as_b71 Eb_b71 f_b71 rs_b71 (e2_orG 231 83 11 4 2147483648 2147483668 as_b70 Eb_b70 f_b70 rs_b70 (e2_orG 231 83 11 4 2147483648 2147483668 as_b69 Eb_b69 f_b69 rs_b69 (e2_orG 231 83 11 4 2147483648 2147483668 as_b68 Eb_b68 f_b68 rs_b68 (e2_orG 231 83 11 4 2147483648 2147483668 as_b67 Eb_b67 f_b67 rs_b67 (e2_orG 231 83 11 4 2147483648 2147483668 as_b66 Eb_b66 f_b66 rs_b66 (e2_orG 231 83 11 4 2147483648 2147483668 as_b65 Eb_b65 f_b65 rs_b65 (e2_orG 231 83 11 4 2147483648 2147483668 as_b64 Eb_b64 f_b64 rs_b64 (e2_cal S_b88 I_b88 4000 1))))))))))))))))))))) (e2_fin rs_b88) e2x_230 (e2_bpL cl_b88_e) (e2_cutA cl_b88_e) 4000 (e2_seek e2x_230 0) (e2_al 5 as_b88) [] E_b88 f_b88 = true := by decide +kernel
noncomputable def cl_b88_26 : List (Nat × e2_S) := [(2, e2_cutL (al_b88_26.set 2 (13, 12, 2147483657)) 4 (E_b88_26.take 4) h_b88_26),
  (49, e2_cutL (al_b88_27.set 2 (11, 2147483647, 2147483667)) 4 (E_b88_27.take 4) h_b88_27)]
set_option maxRecDepth 1000000 in
theorem ck_b88_26 : e2_runM (e2_orG 231 83 11 4 2147483648 2147483668 as_b83 Eb_b83 f_b83 rs_b83 (e2_orG 231 83 11 4 2147483648 2147483668 as_b82 Eb_b82 f_b82 rs_b82 (e2_orG 231 83 11 4 2147483648 2147483668 as_b81 Eb_b81 f_b81 rs_b81 (e2_orG 231 83 11 4 2147483648 2147483668 as_b80 Eb_b80 f_b80 rs_b80 (e2_orG 231 83 11 4 2147483648 2147483668 as_b79 Eb_b79 f_b79 rs_b79 (e2_orG 231 83 11 4 2147483648 2147483668 as_b78 Eb_b78 f_b78 rs_b78 (e2_orG 231 83 11 4 2147483648 2147483668 as_b77 Eb_b77 f_b77 rs_b77 (e2_orG 231 83 11 4 2147483648 2147483668 as_b76 Eb_b76 f_b76 rs_b76 (e2_orG 231 83 11 4 2147483648 2147483668 as_b75 Eb_b75 f_b75 rs_b75 (e2_orG 231 83 11 4 2147483648 2147483668 as_b74 Eb_b74 f_b74 rs_b74 (e2_orG 231 83 11 4 2147483648 2147483668 as_b73 Eb_b73 f_b73 rs_b73 (e2_orG 231 83 11 4 2147483648 2147483668 as_b72 Eb_b72 f_b72 rs_b72 (e2_orG 231 83 11 4 2147483648 2147483668 as_b71 Eb_b71 f_b71 rs_b71 (e2_orG 231 83 11 4 2147483648 2147483668 as_b70 Eb_b70 f_b70 rs_b70 (e2_orG 231 83 11 4 2147483648 2147483668 as_b69 Eb_b69 f_b69 rs_b69 (e2_orG 231 83 11 4 2147483648 2147483668 as_b68 Eb_b68 f_b68 rs_b68 (e2_orG 231 83 11 4 2147483648 2147483668 as_b67 Eb_b67 f_b67 rs_b67 (e2_orG 231 83 11 4 2147483648 2147483668 as_b66 Eb_b66 f_b66 rs_b66 (e2_orG 231 83 11 4 2147483648 2147483668 as_b65 Eb_b65 f_b65 rs_b65 (e2_orG 231 83 11 4 2147483648 2147483668 as_b64 Eb_b64 f_b64 rs_b64 (e2_cal S_b88 I_b88 4000 1))))))))))))))))))))) (e2_fin rs_b88) e2x_230 (e2_bpL cl_b88_26) (e2_cutA cl_b88_26) 4000 (e2_seek e2x_230 2) al_b88_26 [] E_b88_26 h_b88_26 = true := by decide +kernel
set_option maxRecDepth 1000000 in
theorem ci_b88_26 : e2_idl 4 (al_b88_26.set 2 (9, 0, 0)) = true := by decide +kernel
set_option maxRecDepth 1000000 in
theorem cj_b88_26 : e2_idh 4 8 h_b88_26 = true := by decide +kernel
noncomputable def cl_b88_27 : List (Nat × e2_S) := [(120, e2_cutS cu_b88_120),
  (55, e2_cutL (al_b88_28.set 3 (11, 2147483648, 2147483657)) 5 (E_b88_28.take 5) h_b88_28)]
set_option maxRecDepth 1000000 in
theorem ck_b88_27 : e2_runM (e2_orG 231 83 11 4 2147483648 2147483668 as_b83 Eb_b83 f_b83 rs_b83 (e2_orG 231 83 11 4 2147483648 2147483668 as_b82 Eb_b82 f_b82 rs_b82 (e2_orG 231 83 11 4 2147483648 2147483668 as_b81 Eb_b81 f_b81 rs_b81 (e2_orG 231 83 11 4 2147483648 2147483668 as_b80 Eb_b80 f_b80 rs_b80 (e2_orG 231 83 11 4 2147483648 2147483668 as_b79 Eb_b79 f_b79 rs_b79 (e2_orG 231 83 11 4 2147483648 2147483668 as_b78 Eb_b78 f_b78 rs_b78 (e2_orG 231 83 11 4 2147483648 2147483668 as_b77 Eb_b77 f_b77 rs_b77 (e2_orG 231 83 11 4 2147483648 2147483668 as_b76 Eb_b76 f_b76 rs_b76 (e2_orG 231 83 11 4 2147483648 2147483668 as_b75 Eb_b75 f_b75 rs_b75 (e2_orG 231 83 11 4 2147483648 2147483668 as_b74 Eb_b74 f_b74 rs_b74 (e2_orG 231 83 11 4 2147483648 2147483668 as_b73 Eb_b73 f_b73 rs_b73 (e2_orG 231 83 11 4 2147483648 2147483668 as_b72 Eb_b72 f_b72 rs_b72 (e2_orG 231 83 11 4 2147483648 2147483668 as_b71 Eb_b71 f_b71 rs_b71 (e2_orG 231 83 11 4 2147483648 2147483668 as_b70 Eb_b70 f_b70 rs_b70 (e2_orG 231 83 11 4 2147483648 2147483668 as_b69 Eb_b69 f_b69 rs_b69 (e2_orG 231 83 11 4 2147483648 2147483668 as_b68 Eb_b68 f_b68 rs_b68 (e2_orG 231 83 11 4 2147483648 2147483668 as_b67 Eb_b67 f_b67 rs_b67 (e2_orG 231 83 11 4 2147483648 2147483668 as_b66 Eb_b66 f_b66 rs_b66 (e2_orG 231 83 11 4 2147483648 2147483668 as_b65 Eb_b65 f_b65 rs_b65 (e2_orG 231 83 11 4 2147483648 2147483668 as_b64 Eb_b64 f_b64 rs_b64 (e2_cal S_b88 I_b88 4000 1))))))))))))))))))))) (e2_fin rs_b88) e2x_230 (e2_bpL cl_b88_27) (e2_cutA cl_b88_27) 4000 (e2_seek e2x_230 49) al_b88_27 [] E_b88_27 h_b88_27 = true := by decide +kernel
set_option maxRecDepth 1000000 in
theorem ci_b88_27 : e2_idl 4 (al_b88_27.set 2 (9, 0, 0)) = true := by decide +kernel
set_option maxRecDepth 1000000 in
theorem cj_b88_27 : e2_idh 4 8 h_b88_27 = true := by decide +kernel
noncomputable def cl_b88_28 : List (Nat × e2_S) := [(49, e2_cutL (al_b88_27.set 2 (12, 12, 2147483647)) 4 (E_b88_27.take 4) h_b88_27),
  (55, e2_cutL (al_b88_28.set 3 (13, 13, 2147483657)) 5 (E_b88_28.take 5) h_b88_28)]
set_option maxRecDepth 1000000 in
theorem ck_b88_28 : e2_runM (e2_orG 231 83 11 4 2147483648 2147483668 as_b83 Eb_b83 f_b83 rs_b83 (e2_orG 231 83 11 4 2147483648 2147483668 as_b82 Eb_b82 f_b82 rs_b82 (e2_orG 231 83 11 4 2147483648 2147483668 as_b81 Eb_b81 f_b81 rs_b81 (e2_orG 231 83 11 4 2147483648 2147483668 as_b80 Eb_b80 f_b80 rs_b80 (e2_orG 231 83 11 4 2147483648 2147483668 as_b79 Eb_b79 f_b79 rs_b79 (e2_orG 231 83 11 4 2147483648 2147483668 as_b78 Eb_b78 f_b78 rs_b78 (e2_orG 231 83 11 4 2147483648 2147483668 as_b77 Eb_b77 f_b77 rs_b77 (e2_orG 231 83 11 4 2147483648 2147483668 as_b76 Eb_b76 f_b76 rs_b76 (e2_orG 231 83 11 4 2147483648 2147483668 as_b75 Eb_b75 f_b75 rs_b75 (e2_orG 231 83 11 4 2147483648 2147483668 as_b74 Eb_b74 f_b74 rs_b74 (e2_orG 231 83 11 4 2147483648 2147483668 as_b73 Eb_b73 f_b73 rs_b73 (e2_orG 231 83 11 4 2147483648 2147483668 as_b72 Eb_b72 f_b72 rs_b72 (e2_orG 231 83 11 4 2147483648 2147483668 as_b71 Eb_b71 f_b71 rs_b71 (e2_orG 231 83 11 4 2147483648 2147483668 as_b70 Eb_b70 f_b70 rs_b70 (e2_orG 231 83 11 4 2147483648 2147483668 as_b69 Eb_b69 f_b69 rs_b69 (e2_orG 231 83 11 4 2147483648 2147483668 as_b68 Eb_b68 f_b68 rs_b68 (e2_orG 231 83 11 4 2147483648 2147483668 as_b67 Eb_b67 f_b67 rs_b67 (e2_orG 231 83 11 4 2147483648 2147483668 as_b66 Eb_b66 f_b66 rs_b66 (e2_orG 231 83 11 4 2147483648 2147483668 as_b65 Eb_b65 f_b65 rs_b65 (e2_orG 231 83 11 4 2147483648 2147483668 as_b64 Eb_b64 f_b64 rs_b64 (e2_cal S_b88 I_b88 4000 1))))))))))))))))))))) (e2_fin rs_b88) e2x_230 (e2_bpL cl_b88_28) (e2_cutA cl_b88_28) 4000 (e2_seek e2x_230 55) al_b88_28 [] E_b88_28 h_b88_28 = true := by decide +kernel
set_option maxRecDepth 1000000 in
theorem ci_b88_28 : e2_idl 5 (al_b88_28.set 3 (9, 0, 0)) = true := by decide +kernel
set_option maxRecDepth 1000000 in
theorem cj_b88_28 : e2_idh 5 8 h_b88_28 = true := by decide +kernel
set_option maxRecDepth 1000000 in
theorem ck_b88_u120 : e2_cutsB (e2_orG 231 83 11 4 2147483648 2147483668 as_b83 Eb_b83 f_b83 rs_b83 (e2_orG 231 83 11 4 2147483648 2147483668 as_b82 Eb_b82 f_b82 rs_b82 (e2_orG 231 83 11 4 2147483648 2147483668 as_b81 Eb_b81 f_b81 rs_b81 (e2_orG 231 83 11 4 2147483648 2147483668 as_b80 Eb_b80 f_b80 rs_b80 (e2_orG 231 83 11 4 2147483648 2147483668 as_b79 Eb_b79 f_b79 rs_b79 (e2_orG 231 83 11 4 2147483648 2147483668 as_b78 Eb_b78 f_b78 rs_b78 (e2_orG 231 83 11 4 2147483648 2147483668 as_b77 Eb_b77 f_b77 rs_b77 (e2_orG 231 83 11 4 2147483648 2147483668 as_b76 Eb_b76 f_b76 rs_b76 (e2_orG 231 83 11 4 2147483648 2147483668 as_b75 Eb_b75 f_b75 rs_b75 (e2_orG 231 83 11 4 2147483648 2147483668 as_b74 Eb_b74 f_b74 rs_b74 (e2_orG 231 83 11 4 2147483648 2147483668 as_b73 Eb_b73 f_b73 rs_b73 (e2_orG 231 83 11 4 2147483648 2147483668 as_b72 Eb_b72 f_b72 rs_b72 (e2_orG 231 83 11 4 2147483648 2147483668 as_b71 Eb_b71 f_b71 rs_b71 (e2_orG 231 83 11 4 2147483648 2147483668 as_b70 Eb_b70 f_b70 rs_b70 (e2_orG 231 83 11 4 2147483648 2147483668 as_b69 Eb_b69 f_b69 rs_b69 (e2_orG 231 83 11 4 2147483648 2147483668 as_b68 Eb_b68 f_b68 rs_b68 (e2_orG 231 83 11 4 2147483648 2147483668 as_b67 Eb_b67 f_b67 rs_b67 (e2_orG 231 83 11 4 2147483648 2147483668 as_b66 Eb_b66 f_b66 rs_b66 (e2_orG 231 83 11 4 2147483648 2147483668 as_b65 Eb_b65 f_b65 rs_b65 (e2_orG 231 83 11 4 2147483648 2147483668 as_b64 Eb_b64 f_b64 rs_b64 (e2_cal S_b88 I_b88 4000 1))))))))))))))))))))) (e2_fin rs_b88) e2x_230 120 4000 cu_b88_120 = true := by decide +kernel
set_option maxRecDepth 1000000 in
theorem cs_b88 (hen : en_ok) (l : Launch) : e2_smOk l 5 s_b88 := by
  refine e2_conC (H := 4) (C := evd_230) (call := (e2_orG 231 83 11 4 2147483648 2147483668 as_b83 Eb_b83 f_b83 rs_b83 (e2_orG 231 83 11 4 2147483648 2147483668 as_b82 Eb_b82 f_b82 rs_b82 (e2_orG 231 83 11 4 2147483648 2147483668 as_b81 Eb_b81 f_b81 rs_b81 (e2_orG 231 83 11 4 2147483648 2147483668 as_b80 Eb_b80 f_b80 rs_b80 (e2_orG 231 83 11 4 2147483648 2147483668 as_b79 Eb_b79 f_b79 rs_b79 (e2_orG 231 83 11 4 2147483648 2147483668 as_b78 Eb_b78 f_b78 rs_b78 (e2_orG 231 83 11 4 2147483648 2147483668 as_b77 Eb_b77 f_b77 rs_b77 (e2_orG 231 83 11 4 2147483648 2147483668 as_b76 Eb_b76 f_b76 rs_b76 (e2_orG 231 83 11 4 2147483648 2147483668 as_b75 Eb_b75 f_b75 rs_b75 (e2_orG 231 83 11 4 2147483648 2147483668 as_b74 Eb_b74 f_b74 rs_b74 (e2_orG 231 83 11 4 2147483648 2147483668 as_b73 Eb_b73 f_b73 rs_b73 (e2_orG 231 83 11 4 2147483648 2147483668 as_b72 Eb_b72 f_b72 rs_b72 (e2_orG 231 83 11 4 2147483648 2147483668 as_b71 Eb_b71 f_b71 rs_b71 (e2_orG 231 83 11 4 2147483648 2147483668 as_b70 Eb_b70 f_b70 rs_b70 (e2_orG 231 83 11 4 2147483648 2147483668 as_b69 Eb_b69 f_b69 rs_b69 (e2_orG 231 83 11 4 2147483648 2147483668 as_b68 Eb_b68 f_b68 rs_b68 (e2_orG 231 83 11 4 2147483648 2147483668 as_b67 Eb_b67 f_b67 rs_b67 (e2_orG 231 83 11 4 2147483648 2147483668 as_b66 Eb_b66 f_b66 rs_b66 (e2_orG 231 83 11 4 2147483648 2147483668 as_b65 Eb_b65 f_b65 rs_b65 (e2_orG 231 83 11 4 2147483648 2147483668 as_b64 Eb_b64 f_b64 rs_b64 (e2_cal S_b88 I_b88 4000 1)))))))))))))))))))))) ei_230 (fun d hd => (e2_orG_ok (k0 := 231) (a := 83) (j := 11) (n := 4) (lo := 2147483648) (hi := 2147483668) (as0 := as_b83) (Eb := Eb_b83) (f := f_b83) (res := rs_b83) (e2_orG_ok (k0 := 231) (a := 83) (j := 11) (n := 4) (lo := 2147483648) (hi := 2147483668) (as0 := as_b82) (Eb := Eb_b82) (f := f_b82) (res := rs_b82) (e2_orG_ok (k0 := 231) (a := 83) (j := 11) (n := 4) (lo := 2147483648) (hi := 2147483668) (as0 := as_b81) (Eb := Eb_b81) (f := f_b81) (res := rs_b81) (e2_orG_ok (k0 := 231) (a := 83) (j := 11) (n := 4) (lo := 2147483648) (hi := 2147483668) (as0 := as_b80) (Eb := Eb_b80) (f := f_b80) (res := rs_b80) (e2_orG_ok (k0 := 231) (a := 83) (j := 11) (n := 4) (lo := 2147483648) (hi := 2147483668) (as0 := as_b79) (Eb := Eb_b79) (f := f_b79) (res := rs_b79) (e2_orG_ok (k0 := 231) (a := 83) (j := 11) (n := 4) (lo := 2147483648) (hi := 2147483668) (as0 := as_b78) (Eb := Eb_b78) (f := f_b78) (res := rs_b78) (e2_orG_ok (k0 := 231) (a := 83) (j := 11) (n := 4) (lo := 2147483648) (hi := 2147483668) (as0 := as_b77) (Eb := Eb_b77) (f := f_b77) (res := rs_b77) (e2_orG_ok (k0 := 231) (a := 83) (j := 11) (n := 4) (lo := 2147483648) (hi := 2147483668) (as0 := as_b76) (Eb := Eb_b76) (f := f_b76) (res := rs_b76) (e2_orG_ok (k0 := 231) (a := 83) (j := 11) (n := 4) (lo := 2147483648) (hi := 2147483668) (as0 := as_b75) (Eb := Eb_b75) (f := f_b75) (res := rs_b75) (e2_orG_ok (k0 := 231) (a := 83) (j := 11) (n := 4) (lo := 2147483648) (hi := 2147483668) (as0 := as_b74) (Eb := Eb_b74) (f := f_b74) (res := rs_b74) (e2_orG_ok (k0 := 231) (a := 83) (j := 11) (n := 4) (lo := 2147483648) (hi := 2147483668) (as0 := as_b73) (Eb := Eb_b73) (f := f_b73) (res := rs_b73) (e2_orG_ok (k0 := 231) (a := 83) (j := 11) (n := 4) (lo := 2147483648) (hi := 2147483668) (as0 := as_b72) (Eb := Eb_b72) (f := f_b72) (res := rs_b72) (e2_orG_ok (k0 := 231) (a := 83) (j := 11) (n := 4) (lo := 2147483648) (hi := 2147483668) (as0 := as_b71) (Eb := Eb_b71) (f := f_b71) (res := rs_b71) (e2_orG_ok (k0 := 231) (a := 83) (j := 11) (n := 4) (lo := 2147483648) (hi := 2147483668) (as0 := as_b70) (Eb := Eb_b70) (f := f_b70) (res := rs_b70) (e2_orG_ok (k0 := 231) (a := 83) (j := 11) (n := 4) (lo := 2147483648) (hi := 2147483668) (as0 := as_b69) (Eb := Eb_b69) (f := f_b69) (res := rs_b69) (e2_orG_ok (k0 := 231) (a := 83) (j := 11) (n := 4) (lo := 2147483648) (hi := 2147483668) (as0 := as_b68) (Eb := Eb_b68) (f := f_b68) (res := rs_b68) (e2_orG_ok (k0 := 231) (a := 83) (j := 11) (n := 4) (lo := 2147483648) (hi := 2147483668) (as0 := as_b67) (Eb := Eb_b67) (f := f_b67) (res := rs_b67) (e2_orG_ok (k0 := 231) (a := 83) (j := 11) (n := 4) (lo := 2147483648) (hi := 2147483668) (as0 := as_b66) (Eb := Eb_b66) (f := f_b66) (res := rs_b66) (e2_orG_ok (k0 := 231) (a := 83) (j := 11) (n := 4) (lo := 2147483648) (hi := 2147483668) (as0 := as_b65) (Eb := Eb_b65) (f := f_b65) (res := rs_b65) (e2_orG_ok (k0 := 231) (a := 83) (j := 11) (n := 4) (lo := 2147483648) (hi := 2147483668) (as0 := as_b64) (Eb := Eb_b64) (f := f_b64) (res := rs_b64) (e2_cal_ok hen (e2_fa (cs_b24 hen l) (e2_fa (cs_b25 hen l) (e2_fa (cs_b26 hen l) (e2_fa (cs_b27 hen l) (e2_fa (cs_b28 hen l) (e2_fa (cs_b29 hen l) (e2_fa (cs_b30 hen l) (e2_fa (cs_b31 hen l) (e2_fa (cs_b32 hen l) (e2_fa (cs_b33 hen l) (e2_fa (cs_b34 hen l) (e2_fa (cs_b35 hen l) (e2_fa (cs_b36 hen l) (e2_fa (cs_b37 hen l) (e2_fa (cs_b38 hen l) (e2_fa (cs_b39 hen l) (e2_fa (cs_b40 hen l) (e2_fa (cs_b41 hen l) (e2_fa (cs_b42 hen l) (e2_fa (cs_b43 hen l) e2_fz)))))))))))))))))))) (e2_fa ein_216 (e2_fa ein_217 (e2_fa ein_227 e2_fz))) 1 d (by omega)) rfl (by decide +kernel) (fun M hM => (cs_b64 hen l).2 M hM d (by omega)) (e2_okGB_ok cog_b64)) rfl (by decide +kernel) (fun M hM => (cs_b65 hen l).2 M hM d (by omega)) (e2_okGB_ok cog_b65)) rfl (by decide +kernel) (fun M hM => (cs_b66 hen l).2 M hM d (by omega)) (e2_okGB_ok cog_b66)) rfl (by decide +kernel) (fun M hM => (cs_b67 hen l).2 M hM d (by omega)) (e2_okGB_ok cog_b67)) rfl (by decide +kernel) (fun M hM => (cs_b68 hen l).2 M hM d (by omega)) (e2_okGB_ok cog_b68)) rfl (by decide +kernel) (fun M hM => (cs_b69 hen l).2 M hM d (by omega)) (e2_okGB_ok cog_b69)) rfl (by decide +kernel) (fun M hM => (cs_b70 hen l).2 M hM d (by omega)) (e2_okGB_ok cog_b70)) rfl (by decide +kernel) (fun M hM => (cs_b71 hen l).2 M hM d (by omega)) (e2_okGB_ok cog_b71)) rfl (by decide +kernel) (fun M hM => (cs_b72 hen l).2 M hM d (by omega)) (e2_okGB_ok cog_b72)) rfl (by decide +kernel) (fun M hM => (cs_b73 hen l).2 M hM d (by omega)) (e2_okGB_ok cog_b73)) rfl (by decide +kernel) (fun M hM => (cs_b74 hen l).2 M hM d (by omega)) (e2_okGB_ok cog_b74)) rfl (by decide +kernel) (fun M hM => (cs_b75 hen l).2 M hM d (by omega)) (e2_okGB_ok cog_b75)) rfl (by decide +kernel) (fun M hM => (cs_b76 hen l).2 M hM d (by omega)) (e2_okGB_ok cog_b76)) rfl (by decide +kernel) (fun M hM => (cs_b77 hen l).2 M hM d (by omega)) (e2_okGB_ok cog_b77)) rfl (by decide +kernel) (fun M hM => (cs_b78 hen l).2 M hM d (by omega)) (e2_okGB_ok cog_b78)) rfl (by decide +kernel) (fun M hM => (cs_b79 hen l).2 M hM d (by omega)) (e2_okGB_ok cog_b79)) rfl (by decide +kernel) (fun M hM => (cs_b80 hen l).2 M hM d (by omega)) (e2_okGB_ok cog_b80)) rfl (by decide +kernel) (fun M hM => (cs_b81 hen l).2 M hM d (by omega)) (e2_okGB_ok cog_b81)) rfl (by decide +kernel) (fun M hM => (cs_b82 hen l).2 M hM d (by omega)) (e2_okGB_ok cog_b82)) rfl (by decide +kernel) (fun M hM => (cs_b83 hen l).2 M hM d (by omega)) (e2_okGB_ok cog_b83))) (by decide) co_b88 fun M d _ hC hcall p e R s m args below meth c Q D cA A ads r0 ha hl0 => ?_
  have EN_120 := e2_cutS_ok (bp := 120) (cuts := cu_b88_120) (e2_cuts_len hl0 (by decide +kernel)) (e2_cuts_ok hen ha hcall (hC [76, 192, 195]) (X := e2x_230) ex2_230 (e2_cuts_len hl0 (by decide +kernel)) ck_b88_u120)
  have L_27 : e2_gdM M p l e R s m args below meth c Q D cA A ads r0 49 al_b88_27 [] E_b88_27 h_b88_27 := by
    refine e2_indD (u := 4) (j := 2) (lo := 2147483647) (hi := 2147483667) hl0 (by decide) rfl rfl rfl ci_b88_27 cj_b88_27 ?_
    intro r_27 k_27 hk_27 hp_27 hs_27 hn_27
    have hl_27 : r_27.length ≤ 5 := hs_27.len rfl
    have ha_27 := ha.ext hp_27
    have L_28 : e2_gdM M p l e R s m args below meth c Q D cA A ads r_27 55 al_b88_28 [] E_b88_28 h_b88_28 := by
      refine e2_indL (u := 5) (j := 3) (lo := 2147483648) (hi := 2147483657) (b := 5) (dd := 0) hl_27 (by decide) rfl rfl (Or.inr ⟨rfl, rfl⟩) rfl ci_b88_28 cj_b88_28 ?_
      intro r_28 k_28 hk_28 hp_28 hs_28 hn_28
      have hl_28 : r_28.length ≤ 6 := hs_28.len rfl
      have ha_28 := ha_27.ext hp_28
      exact e2_fromM hen ha_28 hcall (e2_cutA_ok (e2_fa (fun al st E h hc => (hn_27 al st E h hc).ext hp_28) (e2_fa (fun al st E h hc => hn_28 al st E h hc) e2_fz))) (hC [76, 192, 195]) (X := e2x_230) ex2_230 55 ck_b88_28
    have EN_28 := e2_entL (u := 5) (j := 3) (lo := 2147483648) (hi := 2147483657) hl_27 rfl rfl rfl ci_b88_28 cj_b88_28 L_28
    exact e2_fromM hen ha_27 hcall (e2_cutA_ok (e2_fa (fun al st E h hc => (EN_120 al st E h hc).ext hp_27) (e2_fa (fun al st E h hc => EN_28 al st E h hc) e2_fz))) (hC [76, 192, 195]) (X := e2x_230) ex2_230 49 ck_b88_27
  have EN_27 := e2_entL (u := 4) (j := 2) (lo := 2147483647) (hi := 2147483667) hl0 rfl rfl rfl ci_b88_27 cj_b88_27 L_27
  have L_26 : e2_gdM M p l e R s m args below meth c Q D cA A ads r0 2 al_b88_26 [] E_b88_26 h_b88_26 := by
    refine e2_indL (u := 4) (j := 2) (lo := 2147483648) (hi := 2147483657) (b := 4) (dd := 0) hl0 (by decide) rfl rfl (Or.inr ⟨rfl, rfl⟩) rfl ci_b88_26 cj_b88_26 ?_
    intro r_26 k_26 hk_26 hp_26 hs_26 hn_26
    have hl_26 : r_26.length ≤ 5 := hs_26.len rfl
    have ha_26 := ha.ext hp_26
    exact e2_fromM hen ha_26 hcall (e2_cutA_ok (e2_fa (fun al st E h hc => hn_26 al st E h hc) (e2_fa (fun al st E h hc => (EN_27 al st E h hc).ext hp_26) e2_fz))) (hC [76, 192, 195]) (X := e2x_230) ex2_230 2 ck_b88_26
  have EN_26 := e2_entL (u := 4) (j := 2) (lo := 2147483648) (hi := 2147483657) hl0 rfl rfl rfl ci_b88_26 cj_b88_26 L_26
  exact e2_from hen ha hcall (e2_cutA_ok (e2_fa (fun al st E h hc => EN_26 al st E h hc) e2_fz)) (hC [76, 192, 195]) (X := e2x_230) ex2_230 0 ck_b88_e
/-! b89 X10_read -/
def as_b89 : List ev_V := [(2, 83, 0), (11, 0, 4294967295)]
def E_b89 : e2_E := [(2147483648, 2147583648, 0, 0), (2147483653, 2147483653, 1, 0), (2147483648, 2147483688, 2, 0), (2147483648, 2147483688, 3, 0)]
def bc186 : ev_C := (50, [(11, 2147483649, 2147483654), (11, 2147483649, 2147483654), (11, 2147483649, 2147483654), (11, 2147483649, 2147483654), (11, 2147483649, 2147483654), (11, 2147483648, 2147483654), (11, 2147483648, 2147483654), (11, 2147483648, 2147483654), (11, 2147483648, 2147483654), (11, 2147483648, 2147483654), (11, 2147483648, 2147483654), (11, 2147483648, 2147483654), (11, 2147483648, 2147483654), (11, 2147483648, 2147483654), (11, 2147483648, 2147483654), (11, 2147483648, 2147483654)])
def bn819 : e2_Q1 := (bc186, bc3)
def bn820 : e2_Q2 := (bn130, bn819)
def bn821 : e2_Q3 := (bn129, bn820)
def bn822 : e2_Q4 := (bn821, bn386)
def bn823 : e2_Q5 := (bn822, bn156)
def bn824 : e2_Q6 := (bn823, bn487)
def bn825 : e2_Q7 := (bn824, bn451)
def bn826 : e2_Q8 := (bn477, bn825)
noncomputable def f_b89 : ev_H := (bn826 : e2_Q8)
noncomputable def q_b89_0 : ev_H := (bn826 : e2_Q8)
noncomputable def rs_b89 : e2_Rs := [((11, 2147483647, 2147483668), q_b89_0)]
noncomputable def s_b89 : e2_Sm := (230, as_b89, E_b89, f_b89, rs_b89)
noncomputable def S_b89 : List e2_Sm := [s_b24, s_b25, s_b26, s_b27, s_b28, s_b29, s_b30, s_b31, s_b32, s_b33, s_b34, s_b35, s_b36, s_b37, s_b38, s_b39, s_b40, s_b41, s_b42, s_b43]
noncomputable def I_b89 : List e2_In := [(216, 1, e2x_216), (217, 1, e2x_217), (227, 2, e2x_227)]
set_option maxRecDepth 1000000 in
theorem co_b89 : e2_okSB E_b89.length as_b89 f_b89 rs_b89 = true := by decide +kernel
def al_b89_26 : List ev_V := [(2, 83, 0), (11, 0, 4294967295), (1, 4, 4294967296), (9, 0, 0), (9, 0, 0)]
def E_b89_26 : e2_E := [(2147483648, 2147583648, 0, 0), (2147483653, 2147483653, 1, 0), (2147483648, 2147483688, 2, 0), (2147483648, 2147483688, 3, 0), (2147483648, 2147483657, 4, 0)]
noncomputable def h_b89_26 : ev_H := (bn826 : e2_Q8)
def al_b89_27 : List ev_V := [(2, 83, 0), (11, 0, 4294967295), (1, 4, 4294967296), (9, 0, 0), (9, 0, 0)]
def E_b89_27 : e2_E := [(2147483648, 2147583648, 0, 0), (2147483653, 2147483653, 1, 0), (2147483648, 2147483688, 2, 0), (2147483648, 2147483688, 3, 0), (2147483647, 2147483667, 4, 0)]
noncomputable def h_b89_27 : ev_H := (bn826 : e2_Q8)
def al_b89_28 : List ev_V := [(2, 83, 0), (11, 0, 4294967295), (1, 4, 4294967296), (1, 5, 4294967296), (9, 0, 0)]
def E_b89_28 : e2_E := [(2147483648, 2147583648, 0, 0), (2147483653, 2147483653, 1, 0), (2147483648, 2147483688, 2, 0), (2147483648, 2147483688, 3, 0), (2147483648, 2147483667, 4, 0), (2147483648, 2147483657, 5, 0)]
noncomputable def h_b89_28 : ev_H := (bn826 : e2_Q8)
def bn827 : e2_Q7 := (bn824, bn496)
def bn828 : e2_Q8 := (bn477, bn827)
noncomputable def h_b89_0 : ev_H := (bn828 : e2_Q8)
def bn829 : e2_Q7 := (bn824, bn514)
def bn830 : e2_Q8 := (bn477, bn829)
noncomputable def h_b89_1 : ev_H := (bn830 : e2_Q8)
def bn831 : e2_Q7 := (bn824, bn522)
def bn832 : e2_Q8 := (bn477, bn831)
noncomputable def h_b89_2 : ev_H := (bn832 : e2_Q8)
def bn833 : e2_Q7 := (bn824, bn530)
def bn834 : e2_Q8 := (bn477, bn833)
noncomputable def h_b89_3 : ev_H := (bn834 : e2_Q8)
def bn835 : e2_Q7 := (bn824, bn538)
def bn836 : e2_Q8 := (bn477, bn835)
noncomputable def h_b89_4 : ev_H := (bn836 : e2_Q8)
def bn837 : e2_Q7 := (bn824, bn546)
def bn838 : e2_Q8 := (bn477, bn837)
noncomputable def h_b89_5 : ev_H := (bn838 : e2_Q8)
def bn839 : e2_Q7 := (bn824, bn554)
def bn840 : e2_Q8 := (bn477, bn839)
noncomputable def h_b89_6 : ev_H := (bn840 : e2_Q8)
def bn841 : e2_Q7 := (bn824, bn562)
def bn842 : e2_Q8 := (bn477, bn841)
noncomputable def h_b89_7 : ev_H := (bn842 : e2_Q8)
def bn843 : e2_Q7 := (bn824, bn570)
def bn844 : e2_Q8 := (bn477, bn843)
noncomputable def h_b89_8 : ev_H := (bn844 : e2_Q8)
def bn845 : e2_Q7 := (bn824, bn578)
def bn846 : e2_Q8 := (bn477, bn845)
noncomputable def h_b89_9 : ev_H := (bn846 : e2_Q8)
def bn847 : e2_Q7 := (bn824, bn586)
def bn848 : e2_Q8 := (bn477, bn847)
noncomputable def h_b89_10 : ev_H := (bn848 : e2_Q8)
def bn849 : e2_Q7 := (bn824, bn594)
def bn850 : e2_Q8 := (bn477, bn849)
noncomputable def h_b89_11 : ev_H := (bn850 : e2_Q8)
def bn851 : e2_Q7 := (bn824, bn602)
def bn852 : e2_Q8 := (bn477, bn851)
noncomputable def h_b89_12 : ev_H := (bn852 : e2_Q8)
def bn853 : e2_Q7 := (bn824, bn610)
def bn854 : e2_Q8 := (bn477, bn853)
noncomputable def h_b89_13 : ev_H := (bn854 : e2_Q8)
def bn855 : e2_Q7 := (bn824, bn618)
def bn856 : e2_Q8 := (bn477, bn855)
noncomputable def h_b89_14 : ev_H := (bn856 : e2_Q8)
def bn857 : e2_Q7 := (bn824, bn626)
def bn858 : e2_Q8 := (bn477, bn857)
noncomputable def h_b89_15 : ev_H := (bn858 : e2_Q8)
def bn859 : e2_Q7 := (bn824, bn634)
def bn860 : e2_Q8 := (bn477, bn859)
noncomputable def h_b89_16 : ev_H := (bn860 : e2_Q8)
def bn861 : e2_Q7 := (bn824, bn642)
def bn862 : e2_Q8 := (bn477, bn861)
noncomputable def h_b89_17 : ev_H := (bn862 : e2_Q8)
def bn863 : e2_Q7 := (bn824, bn650)
def bn864 : e2_Q8 := (bn477, bn863)
noncomputable def h_b89_18 : ev_H := (bn864 : e2_Q8)
def bn865 : e2_Q7 := (bn824, bn658)
def bn866 : e2_Q8 := (bn477, bn865)
noncomputable def h_b89_19 : ev_H := (bn866 : e2_Q8)
noncomputable def h_b89_20 : ev_H := (bn826 : e2_Q8)
def bn867 : e2_Q7 := (bn824, bn666)
def bn868 : e2_Q8 := (bn477, bn867)
noncomputable def h_b89_21 : ev_H := (bn868 : e2_Q8)
noncomputable def h_b89_22 : ev_H := (bn868 : e2_Q8)
noncomputable def h_b89_23 : ev_H := (bn868 : e2_Q8)
noncomputable def h_b89_24 : ev_H := (bn868 : e2_Q8)
noncomputable def h_b89_25 : ev_H := (bn868 : e2_Q8)
noncomputable def cu_b89_120 : List e2_Cu := [([(2, 83, 0), (11, 0, 4294967295), (0, 0, 0), (0, 8, 0), (9, 0, 0)], [(2147483648, 2147583648, 0, 0), (2147483653, 2147483653, 1, 0), (2147483648, 2147483688, 2, 0), (2147483648, 2147483688, 3, 0)], h_b89_0),
  ([(2, 83, 0), (11, 0, 4294967295), (0, 1, 0), (11, 2147483648, 2147483656), (11, 2147483647, 2147483652)], [(2147483648, 2147583648, 0, 0), (2147483653, 2147483653, 1, 0), (2147483648, 2147483688, 2, 0), (2147483648, 2147483688, 3, 0)], h_b89_1),
  ([(2, 83, 0), (11, 0, 4294967295), (0, 2, 0), (11, 2147483648, 2147483656), (11, 2147483647, 2147483652)], [(2147483648, 2147583648, 0, 0), (2147483653, 2147483653, 1, 0), (2147483648, 2147483688, 2, 0), (2147483648, 2147483688, 3, 0)], h_b89_2),
  ([(2, 83, 0), (11, 0, 4294967295), (0, 3, 0), (11, 2147483648, 2147483656), (11, 2147483647, 2147483652)], [(2147483648, 2147583648, 0, 0), (2147483653, 2147483653, 1, 0), (2147483648, 2147483688, 2, 0), (2147483648, 2147483688, 3, 0)], h_b89_3),
  ([(2, 83, 0), (11, 0, 4294967295), (0, 4, 0), (11, 2147483648, 2147483656), (11, 2147483647, 2147483652)], [(2147483648, 2147583648, 0, 0), (2147483653, 2147483653, 1, 0), (2147483648, 2147483688, 2, 0), (2147483648, 2147483688, 3, 0)], h_b89_4),
  ([(2, 83, 0), (11, 0, 4294967295), (0, 5, 0), (11, 2147483648, 2147483656), (11, 2147483647, 2147483652)], [(2147483648, 2147583648, 0, 0), (2147483653, 2147483653, 1, 0), (2147483648, 2147483688, 2, 0), (2147483648, 2147483688, 3, 0)], h_b89_5),
  ([(2, 83, 0), (11, 0, 4294967295), (0, 6, 0), (11, 2147483648, 2147483656), (11, 2147483647, 2147483652)], [(2147483648, 2147583648, 0, 0), (2147483653, 2147483653, 1, 0), (2147483648, 2147483688, 2, 0), (2147483648, 2147483688, 3, 0)], h_b89_6),
  ([(2, 83, 0), (11, 0, 4294967295), (0, 7, 0), (11, 2147483648, 2147483656), (11, 2147483647, 2147483652)], [(2147483648, 2147583648, 0, 0), (2147483653, 2147483653, 1, 0), (2147483648, 2147483688, 2, 0), (2147483648, 2147483688, 3, 0)], h_b89_7),
  ([(2, 83, 0), (11, 0, 4294967295), (0, 8, 0), (11, 2147483648, 2147483656), (11, 2147483647, 2147483652)], [(2147483648, 2147583648, 0, 0), (2147483653, 2147483653, 1, 0), (2147483648, 2147483688, 2, 0), (2147483648, 2147483688, 3, 0)], h_b89_8),
  ([(2, 83, 0), (11, 0, 4294967295), (0, 9, 0), (11, 2147483648, 2147483656), (11, 2147483647, 2147483652)], [(2147483648, 2147583648, 0, 0), (2147483653, 2147483653, 1, 0), (2147483648, 2147483688, 2, 0), (2147483648, 2147483688, 3, 0)], h_b89_9),
  ([(2, 83, 0), (11, 0, 4294967295), (0, 10, 0), (11, 2147483648, 2147483656), (11, 2147483647, 2147483652)], [(2147483648, 2147583648, 0, 0), (2147483653, 2147483653, 1, 0), (2147483648, 2147483688, 2, 0), (2147483648, 2147483688, 3, 0)], h_b89_10),
  ([(2, 83, 0), (11, 0, 4294967295), (0, 11, 0), (11, 2147483648, 2147483656), (11, 2147483647, 2147483652)], [(2147483648, 2147583648, 0, 0), (2147483653, 2147483653, 1, 0), (2147483648, 2147483688, 2, 0), (2147483648, 2147483688, 3, 0)], h_b89_11),
  ([(2, 83, 0), (11, 0, 4294967295), (0, 12, 0), (11, 2147483648, 2147483656), (11, 2147483647, 2147483652)], [(2147483648, 2147583648, 0, 0), (2147483653, 2147483653, 1, 0), (2147483648, 2147483688, 2, 0), (2147483648, 2147483688, 3, 0)], h_b89_12),
  ([(2, 83, 0), (11, 0, 4294967295), (0, 13, 0), (11, 2147483648, 2147483656), (11, 2147483647, 2147483652)], [(2147483648, 2147583648, 0, 0), (2147483653, 2147483653, 1, 0), (2147483648, 2147483688, 2, 0), (2147483648, 2147483688, 3, 0)], h_b89_13),
  ([(2, 83, 0), (11, 0, 4294967295), (0, 14, 0), (11, 2147483648, 2147483656), (11, 2147483647, 2147483652)], [(2147483648, 2147583648, 0, 0), (2147483653, 2147483653, 1, 0), (2147483648, 2147483688, 2, 0), (2147483648, 2147483688, 3, 0)], h_b89_14),
  ([(2, 83, 0), (11, 0, 4294967295), (0, 15, 0), (11, 2147483648, 2147483656), (11, 2147483647, 2147483652)], [(2147483648, 2147583648, 0, 0), (2147483653, 2147483653, 1, 0), (2147483648, 2147483688, 2, 0), (2147483648, 2147483688, 3, 0)], h_b89_15),
  ([(2, 83, 0), (11, 0, 4294967295), (0, 16, 0), (11, 2147483648, 2147483656), (11, 2147483647, 2147483652)], [(2147483648, 2147583648, 0, 0), (2147483653, 2147483653, 1, 0), (2147483648, 2147483688, 2, 0), (2147483648, 2147483688, 3, 0)], h_b89_16),
  ([(2, 83, 0), (11, 0, 4294967295), (0, 17, 0), (11, 2147483648, 2147483656), (11, 2147483647, 2147483652)], [(2147483648, 2147583648, 0, 0), (2147483653, 2147483653, 1, 0), (2147483648, 2147483688, 2, 0), (2147483648, 2147483688, 3, 0)], h_b89_17),
  ([(2, 83, 0), (11, 0, 4294967295), (0, 18, 0), (11, 2147483648, 2147483656), (11, 2147483647, 2147483652)], [(2147483648, 2147583648, 0, 0), (2147483653, 2147483653, 1, 0), (2147483648, 2147483688, 2, 0), (2147483648, 2147483688, 3, 0)], h_b89_18),
  ([(2, 83, 0), (11, 0, 4294967295), (0, 19, 0), (11, 2147483648, 2147483656), (11, 2147483647, 2147483652)], [(2147483648, 2147583648, 0, 0), (2147483653, 2147483653, 1, 0), (2147483648, 2147483688, 2, 0), (2147483648, 2147483688, 3, 0)], h_b89_19),
  ([(2, 83, 0), (11, 0, 4294967295), (0, 20, 0), (11, 2147483648, 2147483656), (11, 2147483647, 2147483652)], [(2147483648, 2147583648, 0, 0), (2147483653, 2147483653, 1, 0), (2147483648, 2147483688, 2, 0), (2147483648, 2147483688, 3, 0)], h_b89_20),
  ([(2, 83, 0), (11, 0, 4294967295), (0, 21, 0), (11, 2147483648, 2147483652), (11, 2147483648, 2147483652)], [(2147483648, 2147583648, 0, 0), (2147483653, 2147483653, 1, 0), (2147483648, 2147483688, 2, 0), (2147483648, 2147483688, 3, 0)], h_b89_21),
  ([(2, 83, 0), (11, 0, 4294967295), (0, 22, 0), (11, 2147483648, 2147483652), (11, 2147483648, 2147483652)], [(2147483648, 2147583648, 0, 0), (2147483653, 2147483653, 1, 0), (2147483648, 2147483688, 2, 0), (2147483648, 2147483688, 3, 0)], h_b89_22),
  ([(2, 83, 0), (11, 0, 4294967295), (0, 23, 0), (11, 2147483648, 2147483652), (11, 2147483648, 2147483652)], [(2147483648, 2147583648, 0, 0), (2147483653, 2147483653, 1, 0), (2147483648, 2147483688, 2, 0), (2147483648, 2147483688, 3, 0)], h_b89_23),
  ([(2, 83, 0), (11, 0, 4294967295), (0, 24, 0), (11, 2147483648, 2147483652), (11, 2147483648, 2147483652)], [(2147483648, 2147583648, 0, 0), (2147483653, 2147483653, 1, 0), (2147483648, 2147483688, 2, 0), (2147483648, 2147483688, 3, 0)], h_b89_24),
  ([(2, 83, 0), (11, 0, 4294967295), (0, 25, 0), (11, 2147483648, 2147483652), (11, 2147483648, 2147483652)], [(2147483648, 2147583648, 0, 0), (2147483653, 2147483653, 1, 0), (2147483648, 2147483688, 2, 0), (2147483648, 2147483688, 3, 0)], h_b89_25)]
noncomputable def cl_b89_e : List (Nat × e2_S) := [(2, e2_cutL (al_b89_26.set 2 (11, 2147483648, 2147483657)) 4 (E_b89_26.take 4) h_b89_26)]
set_option maxRecDepth 1000000 in
theorem ck_b89_e : e2_run (e2_orG 231 83 11 4 2147483648 2147483668 as_b83 Eb_b83 f_b83 rs_b83 (e2_orG 231 83 11 4 2147483648 2147483668 as_b82 Eb_b82 f_b82 rs_b82 (e2_orG 231 83 11 4 2147483648 2147483668 as_b81 Eb_b81 f_b81 rs_b81 (e2_orG 231 83 11 4 2147483648 2147483668 as_b80 Eb_b80 f_b80 rs_b80 (e2_orG 231 83 11 4 2147483648 2147483668 as_b79 Eb_b79 f_b79 rs_b79 (e2_orG 231 83 11 4 2147483648 2147483668 as_b78 Eb_b78 f_b78 rs_b78 (e2_orG 231 83 11 4 2147483648 2147483668 as_b77 Eb_b77 f_b77 rs_b77 (e2_orG 231 83 11 4 2147483648 2147483668 as_b76 Eb_b76 f_b76 rs_b76 (e2_orG 231 83 11 4 2147483648 2147483668 as_b75 Eb_b75 f_b75 rs_b75 (e2_orG 231 83 11 4 2147483648 2147483668 as_b74 Eb_b74 f_b74 rs_b74 (e2_orG 231 83 11 4 2147483648 2147483668 as_b73 Eb_b73 f_b73 rs_b73 (e2_orG 231 83 11 4 2147483648 2147483668 as_b72 Eb_b72 f_b72 rs_b72 (e2_orG 231 83 11 4 2147483648 2147483668 as_b71 Eb_b71 f_b71 rs_b71 (e2_orG 231 83 11 4 2147483648 2147483668 as_b70 Eb_b70 f_b70 rs_b70 (e2_orG 231 83 11 4 2147483648 2147483668 as_b69 Eb_b69 f_b69 rs_b69 (e2_orG 231 83 11 4 2147483648 2147483668 as_b68 Eb_b68 f_b68 rs_b68 (e2_orG 231 83 11 4 2147483648 2147483668 as_b67 Eb_b67 f_b67 rs_b67 (e2_orG 231 83 11 4 2147483648 2147483668 as_b66 Eb_b66 f_b66 rs_b66 (e2_orG 231 83 11 4 2147483648 2147483668 as_b65 Eb_b65 f_b65 rs_b65 (e2_orG 231 83 11 4 2147483648 2147483668 as_b64 Eb_b64 f_b64 rs_b64 (e2_cal S_b89 I_b89 4000 1))))))))))))))))))))) (e2_fin rs_b89) e2x_230 (e2_bpL cl_b89_e) (e2_cutA cl_b89_e) 4000 (e2_seek e2x_230 0) (e2_al 5 as_b89) [] E_b89 f_b89 = true := by decide +kernel
noncomputable def cl_b89_26 : List (Nat × e2_S) := [(2, e2_cutL (al_b89_26.set 2 (13, 12, 2147483657)) 4 (E_b89_26.take 4) h_b89_26),
  (49, e2_cutL (al_b89_27.set 2 (11, 2147483647, 2147483667)) 4 (E_b89_27.take 4) h_b89_27)]
set_option maxRecDepth 1000000 in
theorem ck_b89_26 : e2_runM (e2_orG 231 83 11 4 2147483648 2147483668 as_b83 Eb_b83 f_b83 rs_b83 (e2_orG 231 83 11 4 2147483648 2147483668 as_b82 Eb_b82 f_b82 rs_b82 (e2_orG 231 83 11 4 2147483648 2147483668 as_b81 Eb_b81 f_b81 rs_b81 (e2_orG 231 83 11 4 2147483648 2147483668 as_b80 Eb_b80 f_b80 rs_b80 (e2_orG 231 83 11 4 2147483648 2147483668 as_b79 Eb_b79 f_b79 rs_b79 (e2_orG 231 83 11 4 2147483648 2147483668 as_b78 Eb_b78 f_b78 rs_b78 (e2_orG 231 83 11 4 2147483648 2147483668 as_b77 Eb_b77 f_b77 rs_b77 (e2_orG 231 83 11 4 2147483648 2147483668 as_b76 Eb_b76 f_b76 rs_b76 (e2_orG 231 83 11 4 2147483648 2147483668 as_b75 Eb_b75 f_b75 rs_b75 (e2_orG 231 83 11 4 2147483648 2147483668 as_b74 Eb_b74 f_b74 rs_b74 (e2_orG 231 83 11 4 2147483648 2147483668 as_b73 Eb_b73 f_b73 rs_b73 (e2_orG 231 83 11 4 2147483648 2147483668 as_b72 Eb_b72 f_b72 rs_b72 (e2_orG 231 83 11 4 2147483648 2147483668 as_b71 Eb_b71 f_b71 rs_b71 (e2_orG 231 83 11 4 2147483648 2147483668 as_b70 Eb_b70 f_b70 rs_b70 (e2_orG 231 83 11 4 2147483648 2147483668 as_b69 Eb_b69 f_b69 rs_b69 (e2_orG 231 83 11 4 2147483648 2147483668 as_b68 Eb_b68 f_b68 rs_b68 (e2_orG 231 83 11 4 2147483648 2147483668 as_b67 Eb_b67 f_b67 rs_b67 (e2_orG 231 83 11 4 2147483648 2147483668 as_b66 Eb_b66 f_b66 rs_b66 (e2_orG 231 83 11 4 2147483648 2147483668 as_b65 Eb_b65 f_b65 rs_b65 (e2_orG 231 83 11 4 2147483648 2147483668 as_b64 Eb_b64 f_b64 rs_b64 (e2_cal S_b89 I_b89 4000 1))))))))))))))))))))) (e2_fin rs_b89) e2x_230 (e2_bpL cl_b89_26) (e2_cutA cl_b89_26) 4000 (e2_seek e2x_230 2) al_b89_26 [] E_b89_26 h_b89_26 = true := by decide +kernel
set_option maxRecDepth 1000000 in
theorem ci_b89_26 : e2_idl 4 (al_b89_26.set 2 (9, 0, 0)) = true := by decide +kernel
set_option maxRecDepth 1000000 in
theorem cj_b89_26 : e2_idh 4 8 h_b89_26 = true := by decide +kernel
noncomputable def cl_b89_27 : List (Nat × e2_S) := [(120, e2_cutS cu_b89_120),
  (55, e2_cutL (al_b89_28.set 3 (11, 2147483648, 2147483657)) 5 (E_b89_28.take 5) h_b89_28)]
set_option maxRecDepth 1000000 in
theorem ck_b89_27 : e2_runM (e2_orG 231 83 11 4 2147483648 2147483668 as_b83 Eb_b83 f_b83 rs_b83 (e2_orG 231 83 11 4 2147483648 2147483668 as_b82 Eb_b82 f_b82 rs_b82 (e2_orG 231 83 11 4 2147483648 2147483668 as_b81 Eb_b81 f_b81 rs_b81 (e2_orG 231 83 11 4 2147483648 2147483668 as_b80 Eb_b80 f_b80 rs_b80 (e2_orG 231 83 11 4 2147483648 2147483668 as_b79 Eb_b79 f_b79 rs_b79 (e2_orG 231 83 11 4 2147483648 2147483668 as_b78 Eb_b78 f_b78 rs_b78 (e2_orG 231 83 11 4 2147483648 2147483668 as_b77 Eb_b77 f_b77 rs_b77 (e2_orG 231 83 11 4 2147483648 2147483668 as_b76 Eb_b76 f_b76 rs_b76 (e2_orG 231 83 11 4 2147483648 2147483668 as_b75 Eb_b75 f_b75 rs_b75 (e2_orG 231 83 11 4 2147483648 2147483668 as_b74 Eb_b74 f_b74 rs_b74 (e2_orG 231 83 11 4 2147483648 2147483668 as_b73 Eb_b73 f_b73 rs_b73 (e2_orG 231 83 11 4 2147483648 2147483668 as_b72 Eb_b72 f_b72 rs_b72 (e2_orG 231 83 11 4 2147483648 2147483668 as_b71 Eb_b71 f_b71 rs_b71 (e2_orG 231 83 11 4 2147483648 2147483668 as_b70 Eb_b70 f_b70 rs_b70 (e2_orG 231 83 11 4 2147483648 2147483668 as_b69 Eb_b69 f_b69 rs_b69 (e2_orG 231 83 11 4 2147483648 2147483668 as_b68 Eb_b68 f_b68 rs_b68 (e2_orG 231 83 11 4 2147483648 2147483668 as_b67 Eb_b67 f_b67 rs_b67 (e2_orG 231 83 11 4 2147483648 2147483668 as_b66 Eb_b66 f_b66 rs_b66 (e2_orG 231 83 11 4 2147483648 2147483668 as_b65 Eb_b65 f_b65 rs_b65 (e2_orG 231 83 11 4 2147483648 2147483668 as_b64 Eb_b64 f_b64 rs_b64 (e2_cal S_b89 I_b89 4000 1))))))))))))))))))))) (e2_fin rs_b89) e2x_230 (e2_bpL cl_b89_27) (e2_cutA cl_b89_27) 4000 (e2_seek e2x_230 49) al_b89_27 [] E_b89_27 h_b89_27 = true := by decide +kernel
set_option maxRecDepth 1000000 in
theorem ci_b89_27 : e2_idl 4 (al_b89_27.set 2 (9, 0, 0)) = true := by decide +kernel
set_option maxRecDepth 1000000 in
theorem cj_b89_27 : e2_idh 4 8 h_b89_27 = true := by decide +kernel
noncomputable def cl_b89_28 : List (Nat × e2_S) := [(49, e2_cutL (al_b89_27.set 2 (12, 12, 2147483647)) 4 (E_b89_27.take 4) h_b89_27),
  (55, e2_cutL (al_b89_28.set 3 (13, 13, 2147483657)) 5 (E_b89_28.take 5) h_b89_28)]
set_option maxRecDepth 1000000 in
theorem ck_b89_28 : e2_runM (e2_orG 231 83 11 4 2147483648 2147483668 as_b83 Eb_b83 f_b83 rs_b83 (e2_orG 231 83 11 4 2147483648 2147483668 as_b82 Eb_b82 f_b82 rs_b82 (e2_orG 231 83 11 4 2147483648 2147483668 as_b81 Eb_b81 f_b81 rs_b81 (e2_orG 231 83 11 4 2147483648 2147483668 as_b80 Eb_b80 f_b80 rs_b80 (e2_orG 231 83 11 4 2147483648 2147483668 as_b79 Eb_b79 f_b79 rs_b79 (e2_orG 231 83 11 4 2147483648 2147483668 as_b78 Eb_b78 f_b78 rs_b78 (e2_orG 231 83 11 4 2147483648 2147483668 as_b77 Eb_b77 f_b77 rs_b77 (e2_orG 231 83 11 4 2147483648 2147483668 as_b76 Eb_b76 f_b76 rs_b76 (e2_orG 231 83 11 4 2147483648 2147483668 as_b75 Eb_b75 f_b75 rs_b75 (e2_orG 231 83 11 4 2147483648 2147483668 as_b74 Eb_b74 f_b74 rs_b74 (e2_orG 231 83 11 4 2147483648 2147483668 as_b73 Eb_b73 f_b73 rs_b73 (e2_orG 231 83 11 4 2147483648 2147483668 as_b72 Eb_b72 f_b72 rs_b72 (e2_orG 231 83 11 4 2147483648 2147483668 as_b71 Eb_b71 f_b71 rs_b71 (e2_orG 231 83 11 4 2147483648 2147483668 as_b70 Eb_b70 f_b70 rs_b70 (e2_orG 231 83 11 4 2147483648 2147483668 as_b69 Eb_b69 f_b69 rs_b69 (e2_orG 231 83 11 4 2147483648 2147483668 as_b68 Eb_b68 f_b68 rs_b68 (e2_orG 231 83 11 4 2147483648 2147483668 as_b67 Eb_b67 f_b67 rs_b67 (e2_orG 231 83 11 4 2147483648 2147483668 as_b66 Eb_b66 f_b66 rs_b66 (e2_orG 231 83 11 4 2147483648 2147483668 as_b65 Eb_b65 f_b65 rs_b65 (e2_orG 231 83 11 4 2147483648 2147483668 as_b64 Eb_b64 f_b64 rs_b64 (e2_cal S_b89 I_b89 4000 1))))))))))))))))))))) (e2_fin rs_b89) e2x_230 (e2_bpL cl_b89_28) (e2_cutA cl_b89_28) 4000 (e2_seek e2x_230 55) al_b89_28 [] E_b89_28 h_b89_28 = true := by decide +kernel
set_option maxRecDepth 1000000 in
theorem ci_b89_28 : e2_idl 5 (al_b89_28.set 3 (9, 0, 0)) = true := by decide +kernel
set_option maxRecDepth 1000000 in
theorem cj_b89_28 : e2_idh 5 8 h_b89_28 = true := by decide +kernel
set_option maxRecDepth 1000000 in
theorem ck_b89_u120 : e2_cutsB (e2_orG 231 83 11 4 2147483648 2147483668 as_b83 Eb_b83 f_b83 rs_b83 (e2_orG 231 83 11 4 2147483648 2147483668 as_b82 Eb_b82 f_b82 rs_b82 (e2_orG 231 83 11 4 2147483648 2147483668 as_b81 Eb_b81 f_b81 rs_b81 (e2_orG 231 83 11 4 2147483648 2147483668 as_b80 Eb_b80 f_b80 rs_b80 (e2_orG 231 83 11 4 2147483648 2147483668 as_b79 Eb_b79 f_b79 rs_b79 (e2_orG 231 83 11 4 2147483648 2147483668 as_b78 Eb_b78 f_b78 rs_b78 (e2_orG 231 83 11 4 2147483648 2147483668 as_b77 Eb_b77 f_b77 rs_b77 (e2_orG 231 83 11 4 2147483648 2147483668 as_b76 Eb_b76 f_b76 rs_b76 (e2_orG 231 83 11 4 2147483648 2147483668 as_b75 Eb_b75 f_b75 rs_b75 (e2_orG 231 83 11 4 2147483648 2147483668 as_b74 Eb_b74 f_b74 rs_b74 (e2_orG 231 83 11 4 2147483648 2147483668 as_b73 Eb_b73 f_b73 rs_b73 (e2_orG 231 83 11 4 2147483648 2147483668 as_b72 Eb_b72 f_b72 rs_b72 (e2_orG 231 83 11 4 2147483648 2147483668 as_b71 Eb_b71 f_b71 rs_b71 (e2_orG 231 83 11 4 2147483648 2147483668 as_b70 Eb_b70 f_b70 rs_b70 (e2_orG 231 83 11 4 2147483648 2147483668 as_b69 Eb_b69 f_b69 rs_b69 (e2_orG 231 83 11 4 2147483648 2147483668 as_b68 Eb_b68 f_b68 rs_b68 (e2_orG 231 83 11 4 2147483648 2147483668 as_b67 Eb_b67 f_b67 rs_b67 (e2_orG 231 83 11 4 2147483648 2147483668 as_b66 Eb_b66 f_b66 rs_b66 (e2_orG 231 83 11 4 2147483648 2147483668 as_b65 Eb_b65 f_b65 rs_b65 (e2_orG 231 83 11 4 2147483648 2147483668 as_b64 Eb_b64 f_b64 rs_b64 (e2_cal S_b89 I_b89 4000 1))))))))))))))))))))) (e2_fin rs_b89) e2x_230 120 4000 cu_b89_120 = true := by decide +kernel
set_option maxRecDepth 1000000 in
theorem cs_b89 (hen : en_ok) (l : Launch) : e2_smOk l 5 s_b89 := by
  refine e2_conC (H := 4) (C := evd_230) (call := (e2_orG 231 83 11 4 2147483648 2147483668 as_b83 Eb_b83 f_b83 rs_b83 (e2_orG 231 83 11 4 2147483648 2147483668 as_b82 Eb_b82 f_b82 rs_b82 (e2_orG 231 83 11 4 2147483648 2147483668 as_b81 Eb_b81 f_b81 rs_b81 (e2_orG 231 83 11 4 2147483648 2147483668 as_b80 Eb_b80 f_b80 rs_b80 (e2_orG 231 83 11 4 2147483648 2147483668 as_b79 Eb_b79 f_b79 rs_b79 (e2_orG 231 83 11 4 2147483648 2147483668 as_b78 Eb_b78 f_b78 rs_b78 (e2_orG 231 83 11 4 2147483648 2147483668 as_b77 Eb_b77 f_b77 rs_b77 (e2_orG 231 83 11 4 2147483648 2147483668 as_b76 Eb_b76 f_b76 rs_b76 (e2_orG 231 83 11 4 2147483648 2147483668 as_b75 Eb_b75 f_b75 rs_b75 (e2_orG 231 83 11 4 2147483648 2147483668 as_b74 Eb_b74 f_b74 rs_b74 (e2_orG 231 83 11 4 2147483648 2147483668 as_b73 Eb_b73 f_b73 rs_b73 (e2_orG 231 83 11 4 2147483648 2147483668 as_b72 Eb_b72 f_b72 rs_b72 (e2_orG 231 83 11 4 2147483648 2147483668 as_b71 Eb_b71 f_b71 rs_b71 (e2_orG 231 83 11 4 2147483648 2147483668 as_b70 Eb_b70 f_b70 rs_b70 (e2_orG 231 83 11 4 2147483648 2147483668 as_b69 Eb_b69 f_b69 rs_b69 (e2_orG 231 83 11 4 2147483648 2147483668 as_b68 Eb_b68 f_b68 rs_b68 (e2_orG 231 83 11 4 2147483648 2147483668 as_b67 Eb_b67 f_b67 rs_b67 (e2_orG 231 83 11 4 2147483648 2147483668 as_b66 Eb_b66 f_b66 rs_b66 (e2_orG 231 83 11 4 2147483648 2147483668 as_b65 Eb_b65 f_b65 rs_b65 (e2_orG 231 83 11 4 2147483648 2147483668 as_b64 Eb_b64 f_b64 rs_b64 (e2_cal S_b89 I_b89 4000 1)))))))))))))))))))))) ei_230 (fun d hd => (e2_orG_ok (k0 := 231) (a := 83) (j := 11) (n := 4) (lo := 2147483648) (hi := 2147483668) (as0 := as_b83) (Eb := Eb_b83) (f := f_b83) (res := rs_b83) (e2_orG_ok (k0 := 231) (a := 83) (j := 11) (n := 4) (lo := 2147483648) (hi := 2147483668) (as0 := as_b82) (Eb := Eb_b82) (f := f_b82) (res := rs_b82) (e2_orG_ok (k0 := 231) (a := 83) (j := 11) (n := 4) (lo := 2147483648) (hi := 2147483668) (as0 := as_b81) (Eb := Eb_b81) (f := f_b81) (res := rs_b81) (e2_orG_ok (k0 := 231) (a := 83) (j := 11) (n := 4) (lo := 2147483648) (hi := 2147483668) (as0 := as_b80) (Eb := Eb_b80) (f := f_b80) (res := rs_b80) (e2_orG_ok (k0 := 231) (a := 83) (j := 11) (n := 4) (lo := 2147483648) (hi := 2147483668) (as0 := as_b79) (Eb := Eb_b79) (f := f_b79) (res := rs_b79) (e2_orG_ok (k0 := 231) (a := 83) (j := 11) (n := 4) (lo := 2147483648) (hi := 2147483668) (as0 := as_b78) (Eb := Eb_b78) (f := f_b78) (res := rs_b78) (e2_orG_ok (k0 := 231) (a := 83) (j := 11) (n := 4) (lo := 2147483648) (hi := 2147483668) (as0 := as_b77) (Eb := Eb_b77) (f := f_b77) (res := rs_b77) (e2_orG_ok (k0 := 231) (a := 83) (j := 11) (n := 4) (lo := 2147483648) (hi := 2147483668) (as0 := as_b76) (Eb := Eb_b76) (f := f_b76) (res := rs_b76) (e2_orG_ok (k0 := 231) (a := 83) (j := 11) (n := 4) (lo := 2147483648) (hi := 2147483668) (as0 := as_b75) (Eb := Eb_b75) (f := f_b75) (res := rs_b75) (e2_orG_ok (k0 := 231) (a := 83) (j := 11) (n := 4) (lo := 2147483648) (hi := 2147483668) (as0 := as_b74) (Eb := Eb_b74) (f := f_b74) (res := rs_b74) (e2_orG_ok (k0 := 231) (a := 83) (j := 11) (n := 4) (lo := 2147483648) (hi := 2147483668) (as0 := as_b73) (Eb := Eb_b73) (f := f_b73) (res := rs_b73) (e2_orG_ok (k0 := 231) (a := 83) (j := 11) (n := 4) (lo := 2147483648) (hi := 2147483668) (as0 := as_b72) (Eb := Eb_b72) (f := f_b72) (res := rs_b72) (e2_orG_ok (k0 := 231) (a := 83) (j := 11) (n := 4) (lo := 2147483648) (hi := 2147483668) (as0 := as_b71) (Eb := Eb_b71) (f := f_b71) (res := rs_b71) (e2_orG_ok (k0 := 231) (a := 83) (j := 11) (n := 4) (lo := 2147483648) (hi := 2147483668) (as0 := as_b70) (Eb := Eb_b70) (f := f_b70) (res := rs_b70) (e2_orG_ok (k0 := 231) (a := 83) (j := 11) (n := 4) (lo := 2147483648) (hi := 2147483668) (as0 := as_b69) (Eb := Eb_b69) (f := f_b69) (res := rs_b69) (e2_orG_ok (k0 := 231) (a := 83) (j := 11) (n := 4) (lo := 2147483648) (hi := 2147483668) (as0 := as_b68) (Eb := Eb_b68) (f := f_b68) (res := rs_b68) (e2_orG_ok (k0 := 231) (a := 83) (j := 11) (n := 4) (lo := 2147483648) (hi := 2147483668) (as0 := as_b67) (Eb := Eb_b67) (f := f_b67) (res := rs_b67) (e2_orG_ok (k0 := 231) (a := 83) (j := 11) (n := 4) (lo := 2147483648) (hi := 2147483668) (as0 := as_b66) (Eb := Eb_b66) (f := f_b66) (res := rs_b66) (e2_orG_ok (k0 := 231) (a := 83) (j := 11) (n := 4) (lo := 2147483648) (hi := 2147483668) (as0 := as_b65) (Eb := Eb_b65) (f := f_b65) (res := rs_b65) (e2_orG_ok (k0 := 231) (a := 83) (j := 11) (n := 4) (lo := 2147483648) (hi := 2147483668) (as0 := as_b64) (Eb := Eb_b64) (f := f_b64) (res := rs_b64) (e2_cal_ok hen (e2_fa (cs_b24 hen l) (e2_fa (cs_b25 hen l) (e2_fa (cs_b26 hen l) (e2_fa (cs_b27 hen l) (e2_fa (cs_b28 hen l) (e2_fa (cs_b29 hen l) (e2_fa (cs_b30 hen l) (e2_fa (cs_b31 hen l) (e2_fa (cs_b32 hen l) (e2_fa (cs_b33 hen l) (e2_fa (cs_b34 hen l) (e2_fa (cs_b35 hen l) (e2_fa (cs_b36 hen l) (e2_fa (cs_b37 hen l) (e2_fa (cs_b38 hen l) (e2_fa (cs_b39 hen l) (e2_fa (cs_b40 hen l) (e2_fa (cs_b41 hen l) (e2_fa (cs_b42 hen l) (e2_fa (cs_b43 hen l) e2_fz)))))))))))))))))))) (e2_fa ein_216 (e2_fa ein_217 (e2_fa ein_227 e2_fz))) 1 d (by omega)) rfl (by decide +kernel) (fun M hM => (cs_b64 hen l).2 M hM d (by omega)) (e2_okGB_ok cog_b64)) rfl (by decide +kernel) (fun M hM => (cs_b65 hen l).2 M hM d (by omega)) (e2_okGB_ok cog_b65)) rfl (by decide +kernel) (fun M hM => (cs_b66 hen l).2 M hM d (by omega)) (e2_okGB_ok cog_b66)) rfl (by decide +kernel) (fun M hM => (cs_b67 hen l).2 M hM d (by omega)) (e2_okGB_ok cog_b67)) rfl (by decide +kernel) (fun M hM => (cs_b68 hen l).2 M hM d (by omega)) (e2_okGB_ok cog_b68)) rfl (by decide +kernel) (fun M hM => (cs_b69 hen l).2 M hM d (by omega)) (e2_okGB_ok cog_b69)) rfl (by decide +kernel) (fun M hM => (cs_b70 hen l).2 M hM d (by omega)) (e2_okGB_ok cog_b70)) rfl (by decide +kernel) (fun M hM => (cs_b71 hen l).2 M hM d (by omega)) (e2_okGB_ok cog_b71)) rfl (by decide +kernel) (fun M hM => (cs_b72 hen l).2 M hM d (by omega)) (e2_okGB_ok cog_b72)) rfl (by decide +kernel) (fun M hM => (cs_b73 hen l).2 M hM d (by omega)) (e2_okGB_ok cog_b73)) rfl (by decide +kernel) (fun M hM => (cs_b74 hen l).2 M hM d (by omega)) (e2_okGB_ok cog_b74)) rfl (by decide +kernel) (fun M hM => (cs_b75 hen l).2 M hM d (by omega)) (e2_okGB_ok cog_b75)) rfl (by decide +kernel) (fun M hM => (cs_b76 hen l).2 M hM d (by omega)) (e2_okGB_ok cog_b76)) rfl (by decide +kernel) (fun M hM => (cs_b77 hen l).2 M hM d (by omega)) (e2_okGB_ok cog_b77)) rfl (by decide +kernel) (fun M hM => (cs_b78 hen l).2 M hM d (by omega)) (e2_okGB_ok cog_b78)) rfl (by decide +kernel) (fun M hM => (cs_b79 hen l).2 M hM d (by omega)) (e2_okGB_ok cog_b79)) rfl (by decide +kernel) (fun M hM => (cs_b80 hen l).2 M hM d (by omega)) (e2_okGB_ok cog_b80)) rfl (by decide +kernel) (fun M hM => (cs_b81 hen l).2 M hM d (by omega)) (e2_okGB_ok cog_b81)) rfl (by decide +kernel) (fun M hM => (cs_b82 hen l).2 M hM d (by omega)) (e2_okGB_ok cog_b82)) rfl (by decide +kernel) (fun M hM => (cs_b83 hen l).2 M hM d (by omega)) (e2_okGB_ok cog_b83))) (by decide) co_b89 fun M d _ hC hcall p e R s m args below meth c Q D cA A ads r0 ha hl0 => ?_
  have EN_120 := e2_cutS_ok (bp := 120) (cuts := cu_b89_120) (e2_cuts_len hl0 (by decide +kernel)) (e2_cuts_ok hen ha hcall (hC [76, 192, 195]) (X := e2x_230) ex2_230 (e2_cuts_len hl0 (by decide +kernel)) ck_b89_u120)
  have L_27 : e2_gdM M p l e R s m args below meth c Q D cA A ads r0 49 al_b89_27 [] E_b89_27 h_b89_27 := by
    refine e2_indD (u := 4) (j := 2) (lo := 2147483647) (hi := 2147483667) hl0 (by decide) rfl rfl rfl ci_b89_27 cj_b89_27 ?_
    intro r_27 k_27 hk_27 hp_27 hs_27 hn_27
    have hl_27 : r_27.length ≤ 5 := hs_27.len rfl
    have ha_27 := ha.ext hp_27
    have L_28 : e2_gdM M p l e R s m args below meth c Q D cA A ads r_27 55 al_b89_28 [] E_b89_28 h_b89_28 := by
      refine e2_indL (u := 5) (j := 3) (lo := 2147483648) (hi := 2147483657) (b := 5) (dd := 0) hl_27 (by decide) rfl rfl (Or.inr ⟨rfl, rfl⟩) rfl ci_b89_28 cj_b89_28 ?_
      intro r_28 k_28 hk_28 hp_28 hs_28 hn_28
      have hl_28 : r_28.length ≤ 6 := hs_28.len rfl
      have ha_28 := ha_27.ext hp_28
      exact e2_fromM hen ha_28 hcall (e2_cutA_ok (e2_fa (fun al st E h hc => (hn_27 al st E h hc).ext hp_28) (e2_fa (fun al st E h hc => hn_28 al st E h hc) e2_fz))) (hC [76, 192, 195]) (X := e2x_230) ex2_230 55 ck_b89_28
    have EN_28 := e2_entL (u := 5) (j := 3) (lo := 2147483648) (hi := 2147483657) hl_27 rfl rfl rfl ci_b89_28 cj_b89_28 L_28
    exact e2_fromM hen ha_27 hcall (e2_cutA_ok (e2_fa (fun al st E h hc => (EN_120 al st E h hc).ext hp_27) (e2_fa (fun al st E h hc => EN_28 al st E h hc) e2_fz))) (hC [76, 192, 195]) (X := e2x_230) ex2_230 49 ck_b89_27
  have EN_27 := e2_entL (u := 4) (j := 2) (lo := 2147483647) (hi := 2147483667) hl0 rfl rfl rfl ci_b89_27 cj_b89_27 L_27
  have L_26 : e2_gdM M p l e R s m args below meth c Q D cA A ads r0 2 al_b89_26 [] E_b89_26 h_b89_26 := by
    refine e2_indL (u := 4) (j := 2) (lo := 2147483648) (hi := 2147483657) (b := 4) (dd := 0) hl0 (by decide) rfl rfl (Or.inr ⟨rfl, rfl⟩) rfl ci_b89_26 cj_b89_26 ?_
    intro r_26 k_26 hk_26 hp_26 hs_26 hn_26
    have hl_26 : r_26.length ≤ 5 := hs_26.len rfl
    have ha_26 := ha.ext hp_26
    exact e2_fromM hen ha_26 hcall (e2_cutA_ok (e2_fa (fun al st E h hc => hn_26 al st E h hc) (e2_fa (fun al st E h hc => (EN_27 al st E h hc).ext hp_26) e2_fz))) (hC [76, 192, 195]) (X := e2x_230) ex2_230 2 ck_b89_26
  have EN_26 := e2_entL (u := 4) (j := 2) (lo := 2147483648) (hi := 2147483657) hl0 rfl rfl rfl ci_b89_26 cj_b89_26 L_26
  exact e2_from hen ha hcall (e2_cutA_ok (e2_fa (fun al st E h hc => EN_26 al st E h hc) e2_fz)) (hC [76, 192, 195]) (X := e2x_230) ex2_230 0 ck_b89_e
/-! b90 X10_read -/
def as_b90 : List ev_V := [(2, 83, 0), (11, 0, 4294967295)]
def E_b90 : e2_E := [(2147483648, 2147583648, 0, 0), (2147483654, 2147483654, 1, 0), (2147483648, 2147483688, 2, 0), (2147483648, 2147483688, 3, 0)]
def bc187 : ev_C := (50, [(11, 2147483649, 2147483654), (11, 2147483649, 2147483654), (11, 2147483649, 2147483654), (11, 2147483649, 2147483654), (11, 2147483649, 2147483654), (11, 2147483649, 2147483654), (11, 2147483648, 2147483654), (11, 2147483648, 2147483654), (11, 2147483648, 2147483654), (11, 2147483648, 2147483654), (11, 2147483648, 2147483654), (11, 2147483648, 2147483654), (11, 2147483648, 2147483654), (11, 2147483648, 2147483654), (11, 2147483648, 2147483654), (11, 2147483648, 2147483654)])
def bn869 : e2_Q1 := (bc187, bc3)
def bn870 : e2_Q2 := (bn130, bn869)
def bn871 : e2_Q3 := (bn129, bn870)
def bn872 : e2_Q4 := (bn871, bn386)
def bn873 : e2_Q5 := (bn872, bn156)
def bn874 : e2_Q6 := (bn873, bn487)
def bn875 : e2_Q7 := (bn874, bn451)
def bn876 : e2_Q8 := (bn477, bn875)
noncomputable def f_b90 : ev_H := (bn876 : e2_Q8)
noncomputable def q_b90_0 : ev_H := (bn876 : e2_Q8)
noncomputable def rs_b90 : e2_Rs := [((11, 2147483647, 2147483668), q_b90_0)]
noncomputable def s_b90 : e2_Sm := (230, as_b90, E_b90, f_b90, rs_b90)
noncomputable def S_b90 : List e2_Sm := [s_b24, s_b25, s_b26, s_b27, s_b28, s_b29, s_b30, s_b31, s_b32, s_b33, s_b34, s_b35, s_b36, s_b37, s_b38, s_b39, s_b40, s_b41, s_b42, s_b43]
noncomputable def I_b90 : List e2_In := [(216, 1, e2x_216), (217, 1, e2x_217), (227, 2, e2x_227)]
set_option maxRecDepth 1000000 in
theorem co_b90 : e2_okSB E_b90.length as_b90 f_b90 rs_b90 = true := by decide +kernel
def al_b90_26 : List ev_V := [(2, 83, 0), (11, 0, 4294967295), (1, 4, 4294967296), (9, 0, 0), (9, 0, 0)]
def E_b90_26 : e2_E := [(2147483648, 2147583648, 0, 0), (2147483654, 2147483654, 1, 0), (2147483648, 2147483688, 2, 0), (2147483648, 2147483688, 3, 0), (2147483648, 2147483657, 4, 0)]
noncomputable def h_b90_26 : ev_H := (bn876 : e2_Q8)
def al_b90_27 : List ev_V := [(2, 83, 0), (11, 0, 4294967295), (1, 4, 4294967296), (9, 0, 0), (9, 0, 0)]
def E_b90_27 : e2_E := [(2147483648, 2147583648, 0, 0), (2147483654, 2147483654, 1, 0), (2147483648, 2147483688, 2, 0), (2147483648, 2147483688, 3, 0), (2147483647, 2147483667, 4, 0)]
noncomputable def h_b90_27 : ev_H := (bn876 : e2_Q8)
def al_b90_28 : List ev_V := [(2, 83, 0), (11, 0, 4294967295), (1, 4, 4294967296), (1, 5, 4294967296), (9, 0, 0)]
def E_b90_28 : e2_E := [(2147483648, 2147583648, 0, 0), (2147483654, 2147483654, 1, 0), (2147483648, 2147483688, 2, 0), (2147483648, 2147483688, 3, 0), (2147483648, 2147483667, 4, 0), (2147483648, 2147483657, 5, 0)]
noncomputable def h_b90_28 : ev_H := (bn876 : e2_Q8)
def bn877 : e2_Q7 := (bn874, bn496)
def bn878 : e2_Q8 := (bn477, bn877)
noncomputable def h_b90_0 : ev_H := (bn878 : e2_Q8)
def bn879 : e2_Q7 := (bn874, bn514)
def bn880 : e2_Q8 := (bn477, bn879)
noncomputable def h_b90_1 : ev_H := (bn880 : e2_Q8)
def bn881 : e2_Q7 := (bn874, bn522)
def bn882 : e2_Q8 := (bn477, bn881)
noncomputable def h_b90_2 : ev_H := (bn882 : e2_Q8)
def bn883 : e2_Q7 := (bn874, bn530)
def bn884 : e2_Q8 := (bn477, bn883)
noncomputable def h_b90_3 : ev_H := (bn884 : e2_Q8)
def bn885 : e2_Q7 := (bn874, bn538)
def bn886 : e2_Q8 := (bn477, bn885)
noncomputable def h_b90_4 : ev_H := (bn886 : e2_Q8)
def bn887 : e2_Q7 := (bn874, bn546)
def bn888 : e2_Q8 := (bn477, bn887)
noncomputable def h_b90_5 : ev_H := (bn888 : e2_Q8)
def bn889 : e2_Q7 := (bn874, bn554)
def bn890 : e2_Q8 := (bn477, bn889)
noncomputable def h_b90_6 : ev_H := (bn890 : e2_Q8)
def bn891 : e2_Q7 := (bn874, bn562)
def bn892 : e2_Q8 := (bn477, bn891)
noncomputable def h_b90_7 : ev_H := (bn892 : e2_Q8)
def bn893 : e2_Q7 := (bn874, bn570)
def bn894 : e2_Q8 := (bn477, bn893)
noncomputable def h_b90_8 : ev_H := (bn894 : e2_Q8)
def bn895 : e2_Q7 := (bn874, bn578)
def bn896 : e2_Q8 := (bn477, bn895)
noncomputable def h_b90_9 : ev_H := (bn896 : e2_Q8)
def bn897 : e2_Q7 := (bn874, bn586)
def bn898 : e2_Q8 := (bn477, bn897)
noncomputable def h_b90_10 : ev_H := (bn898 : e2_Q8)
def bn899 : e2_Q7 := (bn874, bn594)
def bn900 : e2_Q8 := (bn477, bn899)
noncomputable def h_b90_11 : ev_H := (bn900 : e2_Q8)
def bn901 : e2_Q7 := (bn874, bn602)
def bn902 : e2_Q8 := (bn477, bn901)
noncomputable def h_b90_12 : ev_H := (bn902 : e2_Q8)
def bn903 : e2_Q7 := (bn874, bn610)
def bn904 : e2_Q8 := (bn477, bn903)
noncomputable def h_b90_13 : ev_H := (bn904 : e2_Q8)
def bn905 : e2_Q7 := (bn874, bn618)
def bn906 : e2_Q8 := (bn477, bn905)
noncomputable def h_b90_14 : ev_H := (bn906 : e2_Q8)
def bn907 : e2_Q7 := (bn874, bn626)
def bn908 : e2_Q8 := (bn477, bn907)
noncomputable def h_b90_15 : ev_H := (bn908 : e2_Q8)
def bn909 : e2_Q7 := (bn874, bn634)
def bn910 : e2_Q8 := (bn477, bn909)
noncomputable def h_b90_16 : ev_H := (bn910 : e2_Q8)
def bn911 : e2_Q7 := (bn874, bn642)
def bn912 : e2_Q8 := (bn477, bn911)
noncomputable def h_b90_17 : ev_H := (bn912 : e2_Q8)
def bn913 : e2_Q7 := (bn874, bn650)
def bn914 : e2_Q8 := (bn477, bn913)
noncomputable def h_b90_18 : ev_H := (bn914 : e2_Q8)
def bn915 : e2_Q7 := (bn874, bn658)
def bn916 : e2_Q8 := (bn477, bn915)
noncomputable def h_b90_19 : ev_H := (bn916 : e2_Q8)
noncomputable def h_b90_20 : ev_H := (bn876 : e2_Q8)
def bn917 : e2_Q7 := (bn874, bn666)
def bn918 : e2_Q8 := (bn477, bn917)
noncomputable def h_b90_21 : ev_H := (bn918 : e2_Q8)
noncomputable def h_b90_22 : ev_H := (bn918 : e2_Q8)
noncomputable def h_b90_23 : ev_H := (bn918 : e2_Q8)
noncomputable def h_b90_24 : ev_H := (bn918 : e2_Q8)
noncomputable def h_b90_25 : ev_H := (bn918 : e2_Q8)
noncomputable def cu_b90_120 : List e2_Cu := [([(2, 83, 0), (11, 0, 4294967295), (0, 0, 0), (0, 8, 0), (9, 0, 0)], [(2147483648, 2147583648, 0, 0), (2147483654, 2147483654, 1, 0), (2147483648, 2147483688, 2, 0), (2147483648, 2147483688, 3, 0)], h_b90_0),
  ([(2, 83, 0), (11, 0, 4294967295), (0, 1, 0), (11, 2147483648, 2147483656), (11, 2147483647, 2147483653)], [(2147483648, 2147583648, 0, 0), (2147483654, 2147483654, 1, 0), (2147483648, 2147483688, 2, 0), (2147483648, 2147483688, 3, 0)], h_b90_1),
  ([(2, 83, 0), (11, 0, 4294967295), (0, 2, 0), (11, 2147483648, 2147483656), (11, 2147483647, 2147483653)], [(2147483648, 2147583648, 0, 0), (2147483654, 2147483654, 1, 0), (2147483648, 2147483688, 2, 0), (2147483648, 2147483688, 3, 0)], h_b90_2),
  ([(2, 83, 0), (11, 0, 4294967295), (0, 3, 0), (11, 2147483648, 2147483656), (11, 2147483647, 2147483653)], [(2147483648, 2147583648, 0, 0), (2147483654, 2147483654, 1, 0), (2147483648, 2147483688, 2, 0), (2147483648, 2147483688, 3, 0)], h_b90_3),
  ([(2, 83, 0), (11, 0, 4294967295), (0, 4, 0), (11, 2147483648, 2147483656), (11, 2147483647, 2147483653)], [(2147483648, 2147583648, 0, 0), (2147483654, 2147483654, 1, 0), (2147483648, 2147483688, 2, 0), (2147483648, 2147483688, 3, 0)], h_b90_4),
  ([(2, 83, 0), (11, 0, 4294967295), (0, 5, 0), (11, 2147483648, 2147483656), (11, 2147483647, 2147483653)], [(2147483648, 2147583648, 0, 0), (2147483654, 2147483654, 1, 0), (2147483648, 2147483688, 2, 0), (2147483648, 2147483688, 3, 0)], h_b90_5),
  ([(2, 83, 0), (11, 0, 4294967295), (0, 6, 0), (11, 2147483648, 2147483656), (11, 2147483647, 2147483653)], [(2147483648, 2147583648, 0, 0), (2147483654, 2147483654, 1, 0), (2147483648, 2147483688, 2, 0), (2147483648, 2147483688, 3, 0)], h_b90_6),
  ([(2, 83, 0), (11, 0, 4294967295), (0, 7, 0), (11, 2147483648, 2147483656), (11, 2147483647, 2147483653)], [(2147483648, 2147583648, 0, 0), (2147483654, 2147483654, 1, 0), (2147483648, 2147483688, 2, 0), (2147483648, 2147483688, 3, 0)], h_b90_7),
  ([(2, 83, 0), (11, 0, 4294967295), (0, 8, 0), (11, 2147483648, 2147483656), (11, 2147483647, 2147483653)], [(2147483648, 2147583648, 0, 0), (2147483654, 2147483654, 1, 0), (2147483648, 2147483688, 2, 0), (2147483648, 2147483688, 3, 0)], h_b90_8),
  ([(2, 83, 0), (11, 0, 4294967295), (0, 9, 0), (11, 2147483648, 2147483656), (11, 2147483647, 2147483653)], [(2147483648, 2147583648, 0, 0), (2147483654, 2147483654, 1, 0), (2147483648, 2147483688, 2, 0), (2147483648, 2147483688, 3, 0)], h_b90_9),
  ([(2, 83, 0), (11, 0, 4294967295), (0, 10, 0), (11, 2147483648, 2147483656), (11, 2147483647, 2147483653)], [(2147483648, 2147583648, 0, 0), (2147483654, 2147483654, 1, 0), (2147483648, 2147483688, 2, 0), (2147483648, 2147483688, 3, 0)], h_b90_10),
  ([(2, 83, 0), (11, 0, 4294967295), (0, 11, 0), (11, 2147483648, 2147483656), (11, 2147483647, 2147483653)], [(2147483648, 2147583648, 0, 0), (2147483654, 2147483654, 1, 0), (2147483648, 2147483688, 2, 0), (2147483648, 2147483688, 3, 0)], h_b90_11),
  ([(2, 83, 0), (11, 0, 4294967295), (0, 12, 0), (11, 2147483648, 2147483656), (11, 2147483647, 2147483653)], [(2147483648, 2147583648, 0, 0), (2147483654, 2147483654, 1, 0), (2147483648, 2147483688, 2, 0), (2147483648, 2147483688, 3, 0)], h_b90_12),
  ([(2, 83, 0), (11, 0, 4294967295), (0, 13, 0), (11, 2147483648, 2147483656), (11, 2147483647, 2147483653)], [(2147483648, 2147583648, 0, 0), (2147483654, 2147483654, 1, 0), (2147483648, 2147483688, 2, 0), (2147483648, 2147483688, 3, 0)], h_b90_13),
  ([(2, 83, 0), (11, 0, 4294967295), (0, 14, 0), (11, 2147483648, 2147483656), (11, 2147483647, 2147483653)], [(2147483648, 2147583648, 0, 0), (2147483654, 2147483654, 1, 0), (2147483648, 2147483688, 2, 0), (2147483648, 2147483688, 3, 0)], h_b90_14),
  ([(2, 83, 0), (11, 0, 4294967295), (0, 15, 0), (11, 2147483648, 2147483656), (11, 2147483647, 2147483653)], [(2147483648, 2147583648, 0, 0), (2147483654, 2147483654, 1, 0), (2147483648, 2147483688, 2, 0), (2147483648, 2147483688, 3, 0)], h_b90_15),
  ([(2, 83, 0), (11, 0, 4294967295), (0, 16, 0), (11, 2147483648, 2147483656), (11, 2147483647, 2147483653)], [(2147483648, 2147583648, 0, 0), (2147483654, 2147483654, 1, 0), (2147483648, 2147483688, 2, 0), (2147483648, 2147483688, 3, 0)], h_b90_16),
  ([(2, 83, 0), (11, 0, 4294967295), (0, 17, 0), (11, 2147483648, 2147483656), (11, 2147483647, 2147483653)], [(2147483648, 2147583648, 0, 0), (2147483654, 2147483654, 1, 0), (2147483648, 2147483688, 2, 0), (2147483648, 2147483688, 3, 0)], h_b90_17),
  ([(2, 83, 0), (11, 0, 4294967295), (0, 18, 0), (11, 2147483648, 2147483656), (11, 2147483647, 2147483653)], [(2147483648, 2147583648, 0, 0), (2147483654, 2147483654, 1, 0), (2147483648, 2147483688, 2, 0), (2147483648, 2147483688, 3, 0)], h_b90_18),
  ([(2, 83, 0), (11, 0, 4294967295), (0, 19, 0), (11, 2147483648, 2147483656), (11, 2147483647, 2147483653)], [(2147483648, 2147583648, 0, 0), (2147483654, 2147483654, 1, 0), (2147483648, 2147483688, 2, 0), (2147483648, 2147483688, 3, 0)], h_b90_19),
  ([(2, 83, 0), (11, 0, 4294967295), (0, 20, 0), (11, 2147483648, 2147483656), (11, 2147483647, 2147483653)], [(2147483648, 2147583648, 0, 0), (2147483654, 2147483654, 1, 0), (2147483648, 2147483688, 2, 0), (2147483648, 2147483688, 3, 0)], h_b90_20),
  ([(2, 83, 0), (11, 0, 4294967295), (0, 21, 0), (11, 2147483648, 2147483653), (11, 2147483648, 2147483653)], [(2147483648, 2147583648, 0, 0), (2147483654, 2147483654, 1, 0), (2147483648, 2147483688, 2, 0), (2147483648, 2147483688, 3, 0)], h_b90_21),
  ([(2, 83, 0), (11, 0, 4294967295), (0, 22, 0), (11, 2147483648, 2147483653), (11, 2147483648, 2147483653)], [(2147483648, 2147583648, 0, 0), (2147483654, 2147483654, 1, 0), (2147483648, 2147483688, 2, 0), (2147483648, 2147483688, 3, 0)], h_b90_22),
  ([(2, 83, 0), (11, 0, 4294967295), (0, 23, 0), (11, 2147483648, 2147483653), (11, 2147483648, 2147483653)], [(2147483648, 2147583648, 0, 0), (2147483654, 2147483654, 1, 0), (2147483648, 2147483688, 2, 0), (2147483648, 2147483688, 3, 0)], h_b90_23),
  ([(2, 83, 0), (11, 0, 4294967295), (0, 24, 0), (11, 2147483648, 2147483653), (11, 2147483648, 2147483653)], [(2147483648, 2147583648, 0, 0), (2147483654, 2147483654, 1, 0), (2147483648, 2147483688, 2, 0), (2147483648, 2147483688, 3, 0)], h_b90_24),
  ([(2, 83, 0), (11, 0, 4294967295), (0, 25, 0), (11, 2147483648, 2147483653), (11, 2147483648, 2147483653)], [(2147483648, 2147583648, 0, 0), (2147483654, 2147483654, 1, 0), (2147483648, 2147483688, 2, 0), (2147483648, 2147483688, 3, 0)], h_b90_25)]
noncomputable def cl_b90_e : List (Nat × e2_S) := [(2, e2_cutL (al_b90_26.set 2 (11, 2147483648, 2147483657)) 4 (E_b90_26.take 4) h_b90_26)]
set_option maxRecDepth 1000000 in
theorem ck_b90_e : e2_run (e2_orG 231 83 11 4 2147483648 2147483668 as_b83 Eb_b83 f_b83 rs_b83 (e2_orG 231 83 11 4 2147483648 2147483668 as_b82 Eb_b82 f_b82 rs_b82 (e2_orG 231 83 11 4 2147483648 2147483668 as_b81 Eb_b81 f_b81 rs_b81 (e2_orG 231 83 11 4 2147483648 2147483668 as_b80 Eb_b80 f_b80 rs_b80 (e2_orG 231 83 11 4 2147483648 2147483668 as_b79 Eb_b79 f_b79 rs_b79 (e2_orG 231 83 11 4 2147483648 2147483668 as_b78 Eb_b78 f_b78 rs_b78 (e2_orG 231 83 11 4 2147483648 2147483668 as_b77 Eb_b77 f_b77 rs_b77 (e2_orG 231 83 11 4 2147483648 2147483668 as_b76 Eb_b76 f_b76 rs_b76 (e2_orG 231 83 11 4 2147483648 2147483668 as_b75 Eb_b75 f_b75 rs_b75 (e2_orG 231 83 11 4 2147483648 2147483668 as_b74 Eb_b74 f_b74 rs_b74 (e2_orG 231 83 11 4 2147483648 2147483668 as_b73 Eb_b73 f_b73 rs_b73 (e2_orG 231 83 11 4 2147483648 2147483668 as_b72 Eb_b72 f_b72 rs_b72 (e2_orG 231 83 11 4 2147483648 2147483668 as_b71 Eb_b71 f_b71 rs_b71 (e2_orG 231 83 11 4 2147483648 2147483668 as_b70 Eb_b70 f_b70 rs_b70 (e2_orG 231 83 11 4 2147483648 2147483668 as_b69 Eb_b69 f_b69 rs_b69 (e2_orG 231 83 11 4 2147483648 2147483668 as_b68 Eb_b68 f_b68 rs_b68 (e2_orG 231 83 11 4 2147483648 2147483668 as_b67 Eb_b67 f_b67 rs_b67 (e2_orG 231 83 11 4 2147483648 2147483668 as_b66 Eb_b66 f_b66 rs_b66 (e2_orG 231 83 11 4 2147483648 2147483668 as_b65 Eb_b65 f_b65 rs_b65 (e2_orG 231 83 11 4 2147483648 2147483668 as_b64 Eb_b64 f_b64 rs_b64 (e2_cal S_b90 I_b90 4000 1))))))))))))))))))))) (e2_fin rs_b90) e2x_230 (e2_bpL cl_b90_e) (e2_cutA cl_b90_e) 4000 (e2_seek e2x_230 0) (e2_al 5 as_b90) [] E_b90 f_b90 = true := by decide +kernel
noncomputable def cl_b90_26 : List (Nat × e2_S) := [(2, e2_cutL (al_b90_26.set 2 (13, 12, 2147483657)) 4 (E_b90_26.take 4) h_b90_26),
  (49, e2_cutL (al_b90_27.set 2 (11, 2147483647, 2147483667)) 4 (E_b90_27.take 4) h_b90_27)]
set_option maxRecDepth 1000000 in
theorem ck_b90_26 : e2_runM (e2_orG 231 83 11 4 2147483648 2147483668 as_b83 Eb_b83 f_b83 rs_b83 (e2_orG 231 83 11 4 2147483648 2147483668 as_b82 Eb_b82 f_b82 rs_b82 (e2_orG 231 83 11 4 2147483648 2147483668 as_b81 Eb_b81 f_b81 rs_b81 (e2_orG 231 83 11 4 2147483648 2147483668 as_b80 Eb_b80 f_b80 rs_b80 (e2_orG 231 83 11 4 2147483648 2147483668 as_b79 Eb_b79 f_b79 rs_b79 (e2_orG 231 83 11 4 2147483648 2147483668 as_b78 Eb_b78 f_b78 rs_b78 (e2_orG 231 83 11 4 2147483648 2147483668 as_b77 Eb_b77 f_b77 rs_b77 (e2_orG 231 83 11 4 2147483648 2147483668 as_b76 Eb_b76 f_b76 rs_b76 (e2_orG 231 83 11 4 2147483648 2147483668 as_b75 Eb_b75 f_b75 rs_b75 (e2_orG 231 83 11 4 2147483648 2147483668 as_b74 Eb_b74 f_b74 rs_b74 (e2_orG 231 83 11 4 2147483648 2147483668 as_b73 Eb_b73 f_b73 rs_b73 (e2_orG 231 83 11 4 2147483648 2147483668 as_b72 Eb_b72 f_b72 rs_b72 (e2_orG 231 83 11 4 2147483648 2147483668 as_b71 Eb_b71 f_b71 rs_b71 (e2_orG 231 83 11 4 2147483648 2147483668 as_b70 Eb_b70 f_b70 rs_b70 (e2_orG 231 83 11 4 2147483648 2147483668 as_b69 Eb_b69 f_b69 rs_b69 (e2_orG 231 83 11 4 2147483648 2147483668 as_b68 Eb_b68 f_b68 rs_b68 (e2_orG 231 83 11 4 2147483648 2147483668 as_b67 Eb_b67 f_b67 rs_b67 (e2_orG 231 83 11 4 2147483648 2147483668 as_b66 Eb_b66 f_b66 rs_b66 (e2_orG 231 83 11 4 2147483648 2147483668 as_b65 Eb_b65 f_b65 rs_b65 (e2_orG 231 83 11 4 2147483648 2147483668 as_b64 Eb_b64 f_b64 rs_b64 (e2_cal S_b90 I_b90 4000 1))))))))))))))))))))) (e2_fin rs_b90) e2x_230 (e2_bpL cl_b90_26) (e2_cutA cl_b90_26) 4000 (e2_seek e2x_230 2) al_b90_26 [] E_b90_26 h_b90_26 = true := by decide +kernel
set_option maxRecDepth 1000000 in
theorem ci_b90_26 : e2_idl 4 (al_b90_26.set 2 (9, 0, 0)) = true := by decide +kernel
set_option maxRecDepth 1000000 in
theorem cj_b90_26 : e2_idh 4 8 h_b90_26 = true := by decide +kernel
noncomputable def cl_b90_27 : List (Nat × e2_S) := [(120, e2_cutS cu_b90_120),
  (55, e2_cutL (al_b90_28.set 3 (11, 2147483648, 2147483657)) 5 (E_b90_28.take 5) h_b90_28)]
set_option maxRecDepth 1000000 in
theorem ck_b90_27 : e2_runM (e2_orG 231 83 11 4 2147483648 2147483668 as_b83 Eb_b83 f_b83 rs_b83 (e2_orG 231 83 11 4 2147483648 2147483668 as_b82 Eb_b82 f_b82 rs_b82 (e2_orG 231 83 11 4 2147483648 2147483668 as_b81 Eb_b81 f_b81 rs_b81 (e2_orG 231 83 11 4 2147483648 2147483668 as_b80 Eb_b80 f_b80 rs_b80 (e2_orG 231 83 11 4 2147483648 2147483668 as_b79 Eb_b79 f_b79 rs_b79 (e2_orG 231 83 11 4 2147483648 2147483668 as_b78 Eb_b78 f_b78 rs_b78 (e2_orG 231 83 11 4 2147483648 2147483668 as_b77 Eb_b77 f_b77 rs_b77 (e2_orG 231 83 11 4 2147483648 2147483668 as_b76 Eb_b76 f_b76 rs_b76 (e2_orG 231 83 11 4 2147483648 2147483668 as_b75 Eb_b75 f_b75 rs_b75 (e2_orG 231 83 11 4 2147483648 2147483668 as_b74 Eb_b74 f_b74 rs_b74 (e2_orG 231 83 11 4 2147483648 2147483668 as_b73 Eb_b73 f_b73 rs_b73 (e2_orG 231 83 11 4 2147483648 2147483668 as_b72 Eb_b72 f_b72 rs_b72 (e2_orG 231 83 11 4 2147483648 2147483668 as_b71 Eb_b71 f_b71 rs_b71 (e2_orG 231 83 11 4 2147483648 2147483668 as_b70 Eb_b70 f_b70 rs_b70 (e2_orG 231 83 11 4 2147483648 2147483668 as_b69 Eb_b69 f_b69 rs_b69 (e2_orG 231 83 11 4 2147483648 2147483668 as_b68 Eb_b68 f_b68 rs_b68 (e2_orG 231 83 11 4 2147483648 2147483668 as_b67 Eb_b67 f_b67 rs_b67 (e2_orG 231 83 11 4 2147483648 2147483668 as_b66 Eb_b66 f_b66 rs_b66 (e2_orG 231 83 11 4 2147483648 2147483668 as_b65 Eb_b65 f_b65 rs_b65 (e2_orG 231 83 11 4 2147483648 2147483668 as_b64 Eb_b64 f_b64 rs_b64 (e2_cal S_b90 I_b90 4000 1))))))))))))))))))))) (e2_fin rs_b90) e2x_230 (e2_bpL cl_b90_27) (e2_cutA cl_b90_27) 4000 (e2_seek e2x_230 49) al_b90_27 [] E_b90_27 h_b90_27 = true := by decide +kernel
set_option maxRecDepth 1000000 in
theorem ci_b90_27 : e2_idl 4 (al_b90_27.set 2 (9, 0, 0)) = true := by decide +kernel
set_option maxRecDepth 1000000 in
theorem cj_b90_27 : e2_idh 4 8 h_b90_27 = true := by decide +kernel
noncomputable def cl_b90_28 : List (Nat × e2_S) := [(49, e2_cutL (al_b90_27.set 2 (12, 12, 2147483647)) 4 (E_b90_27.take 4) h_b90_27),
  (55, e2_cutL (al_b90_28.set 3 (13, 13, 2147483657)) 5 (E_b90_28.take 5) h_b90_28)]
set_option maxRecDepth 1000000 in
theorem ck_b90_28 : e2_runM (e2_orG 231 83 11 4 2147483648 2147483668 as_b83 Eb_b83 f_b83 rs_b83 (e2_orG 231 83 11 4 2147483648 2147483668 as_b82 Eb_b82 f_b82 rs_b82 (e2_orG 231 83 11 4 2147483648 2147483668 as_b81 Eb_b81 f_b81 rs_b81 (e2_orG 231 83 11 4 2147483648 2147483668 as_b80 Eb_b80 f_b80 rs_b80 (e2_orG 231 83 11 4 2147483648 2147483668 as_b79 Eb_b79 f_b79 rs_b79 (e2_orG 231 83 11 4 2147483648 2147483668 as_b78 Eb_b78 f_b78 rs_b78 (e2_orG 231 83 11 4 2147483648 2147483668 as_b77 Eb_b77 f_b77 rs_b77 (e2_orG 231 83 11 4 2147483648 2147483668 as_b76 Eb_b76 f_b76 rs_b76 (e2_orG 231 83 11 4 2147483648 2147483668 as_b75 Eb_b75 f_b75 rs_b75 (e2_orG 231 83 11 4 2147483648 2147483668 as_b74 Eb_b74 f_b74 rs_b74 (e2_orG 231 83 11 4 2147483648 2147483668 as_b73 Eb_b73 f_b73 rs_b73 (e2_orG 231 83 11 4 2147483648 2147483668 as_b72 Eb_b72 f_b72 rs_b72 (e2_orG 231 83 11 4 2147483648 2147483668 as_b71 Eb_b71 f_b71 rs_b71 (e2_orG 231 83 11 4 2147483648 2147483668 as_b70 Eb_b70 f_b70 rs_b70 (e2_orG 231 83 11 4 2147483648 2147483668 as_b69 Eb_b69 f_b69 rs_b69 (e2_orG 231 83 11 4 2147483648 2147483668 as_b68 Eb_b68 f_b68 rs_b68 (e2_orG 231 83 11 4 2147483648 2147483668 as_b67 Eb_b67 f_b67 rs_b67 (e2_orG 231 83 11 4 2147483648 2147483668 as_b66 Eb_b66 f_b66 rs_b66 (e2_orG 231 83 11 4 2147483648 2147483668 as_b65 Eb_b65 f_b65 rs_b65 (e2_orG 231 83 11 4 2147483648 2147483668 as_b64 Eb_b64 f_b64 rs_b64 (e2_cal S_b90 I_b90 4000 1))))))))))))))))))))) (e2_fin rs_b90) e2x_230 (e2_bpL cl_b90_28) (e2_cutA cl_b90_28) 4000 (e2_seek e2x_230 55) al_b90_28 [] E_b90_28 h_b90_28 = true := by decide +kernel
set_option maxRecDepth 1000000 in
theorem ci_b90_28 : e2_idl 5 (al_b90_28.set 3 (9, 0, 0)) = true := by decide +kernel
set_option maxRecDepth 1000000 in
theorem cj_b90_28 : e2_idh 5 8 h_b90_28 = true := by decide +kernel
set_option maxRecDepth 1000000 in
theorem ck_b90_u120 : e2_cutsB (e2_orG 231 83 11 4 2147483648 2147483668 as_b83 Eb_b83 f_b83 rs_b83 (e2_orG 231 83 11 4 2147483648 2147483668 as_b82 Eb_b82 f_b82 rs_b82 (e2_orG 231 83 11 4 2147483648 2147483668 as_b81 Eb_b81 f_b81 rs_b81 (e2_orG 231 83 11 4 2147483648 2147483668 as_b80 Eb_b80 f_b80 rs_b80 (e2_orG 231 83 11 4 2147483648 2147483668 as_b79 Eb_b79 f_b79 rs_b79 (e2_orG 231 83 11 4 2147483648 2147483668 as_b78 Eb_b78 f_b78 rs_b78 (e2_orG 231 83 11 4 2147483648 2147483668 as_b77 Eb_b77 f_b77 rs_b77 (e2_orG 231 83 11 4 2147483648 2147483668 as_b76 Eb_b76 f_b76 rs_b76 (e2_orG 231 83 11 4 2147483648 2147483668 as_b75 Eb_b75 f_b75 rs_b75 (e2_orG 231 83 11 4 2147483648 2147483668 as_b74 Eb_b74 f_b74 rs_b74 (e2_orG 231 83 11 4 2147483648 2147483668 as_b73 Eb_b73 f_b73 rs_b73 (e2_orG 231 83 11 4 2147483648 2147483668 as_b72 Eb_b72 f_b72 rs_b72 (e2_orG 231 83 11 4 2147483648 2147483668 as_b71 Eb_b71 f_b71 rs_b71 (e2_orG 231 83 11 4 2147483648 2147483668 as_b70 Eb_b70 f_b70 rs_b70 (e2_orG 231 83 11 4 2147483648 2147483668 as_b69 Eb_b69 f_b69 rs_b69 (e2_orG 231 83 11 4 2147483648 2147483668 as_b68 Eb_b68 f_b68 rs_b68 (e2_orG 231 83 11 4 2147483648 2147483668 as_b67 Eb_b67 f_b67 rs_b67 (e2_orG 231 83 11 4 2147483648 2147483668 as_b66 Eb_b66 f_b66 rs_b66 (e2_orG 231 83 11 4 2147483648 2147483668 as_b65 Eb_b65 f_b65 rs_b65 (e2_orG 231 83 11 4 2147483648 2147483668 as_b64 Eb_b64 f_b64 rs_b64 (e2_cal S_b90 I_b90 4000 1))))))))))))))))))))) (e2_fin rs_b90) e2x_230 120 4000 cu_b90_120 = true := by decide +kernel
set_option maxRecDepth 1000000 in
theorem cs_b90 (hen : en_ok) (l : Launch) : e2_smOk l 5 s_b90 := by
  refine e2_conC (H := 4) (C := evd_230) (call := (e2_orG 231 83 11 4 2147483648 2147483668 as_b83 Eb_b83 f_b83 rs_b83 (e2_orG 231 83 11 4 2147483648 2147483668 as_b82 Eb_b82 f_b82 rs_b82 (e2_orG 231 83 11 4 2147483648 2147483668 as_b81 Eb_b81 f_b81 rs_b81 (e2_orG 231 83 11 4 2147483648 2147483668 as_b80 Eb_b80 f_b80 rs_b80 (e2_orG 231 83 11 4 2147483648 2147483668 as_b79 Eb_b79 f_b79 rs_b79 (e2_orG 231 83 11 4 2147483648 2147483668 as_b78 Eb_b78 f_b78 rs_b78 (e2_orG 231 83 11 4 2147483648 2147483668 as_b77 Eb_b77 f_b77 rs_b77 (e2_orG 231 83 11 4 2147483648 2147483668 as_b76 Eb_b76 f_b76 rs_b76 (e2_orG 231 83 11 4 2147483648 2147483668 as_b75 Eb_b75 f_b75 rs_b75 (e2_orG 231 83 11 4 2147483648 2147483668 as_b74 Eb_b74 f_b74 rs_b74 (e2_orG 231 83 11 4 2147483648 2147483668 as_b73 Eb_b73 f_b73 rs_b73 (e2_orG 231 83 11 4 2147483648 2147483668 as_b72 Eb_b72 f_b72 rs_b72 (e2_orG 231 83 11 4 2147483648 2147483668 as_b71 Eb_b71 f_b71 rs_b71 (e2_orG 231 83 11 4 2147483648 2147483668 as_b70 Eb_b70 f_b70 rs_b70 (e2_orG 231 83 11 4 2147483648 2147483668 as_b69 Eb_b69 f_b69 rs_b69 (e2_orG 231 83 11 4 2147483648 2147483668 as_b68 Eb_b68 f_b68 rs_b68 (e2_orG 231 83 11 4 2147483648 2147483668 as_b67 Eb_b67 f_b67 rs_b67 (e2_orG 231 83 11 4 2147483648 2147483668 as_b66 Eb_b66 f_b66 rs_b66 (e2_orG 231 83 11 4 2147483648 2147483668 as_b65 Eb_b65 f_b65 rs_b65 (e2_orG 231 83 11 4 2147483648 2147483668 as_b64 Eb_b64 f_b64 rs_b64 (e2_cal S_b90 I_b90 4000 1)))))))))))))))))))))) ei_230 (fun d hd => (e2_orG_ok (k0 := 231) (a := 83) (j := 11) (n := 4) (lo := 2147483648) (hi := 2147483668) (as0 := as_b83) (Eb := Eb_b83) (f := f_b83) (res := rs_b83) (e2_orG_ok (k0 := 231) (a := 83) (j := 11) (n := 4) (lo := 2147483648) (hi := 2147483668) (as0 := as_b82) (Eb := Eb_b82) (f := f_b82) (res := rs_b82) (e2_orG_ok (k0 := 231) (a := 83) (j := 11) (n := 4) (lo := 2147483648) (hi := 2147483668) (as0 := as_b81) (Eb := Eb_b81) (f := f_b81) (res := rs_b81) (e2_orG_ok (k0 := 231) (a := 83) (j := 11) (n := 4) (lo := 2147483648) (hi := 2147483668) (as0 := as_b80) (Eb := Eb_b80) (f := f_b80) (res := rs_b80) (e2_orG_ok (k0 := 231) (a := 83) (j := 11) (n := 4) (lo := 2147483648) (hi := 2147483668) (as0 := as_b79) (Eb := Eb_b79) (f := f_b79) (res := rs_b79) (e2_orG_ok (k0 := 231) (a := 83) (j := 11) (n := 4) (lo := 2147483648) (hi := 2147483668) (as0 := as_b78) (Eb := Eb_b78) (f := f_b78) (res := rs_b78) (e2_orG_ok (k0 := 231) (a := 83) (j := 11) (n := 4) (lo := 2147483648) (hi := 2147483668) (as0 := as_b77) (Eb := Eb_b77) (f := f_b77) (res := rs_b77) (e2_orG_ok (k0 := 231) (a := 83) (j := 11) (n := 4) (lo := 2147483648) (hi := 2147483668) (as0 := as_b76) (Eb := Eb_b76) (f := f_b76) (res := rs_b76) (e2_orG_ok (k0 := 231) (a := 83) (j := 11) (n := 4) (lo := 2147483648) (hi := 2147483668) (as0 := as_b75) (Eb := Eb_b75) (f := f_b75) (res := rs_b75) (e2_orG_ok (k0 := 231) (a := 83) (j := 11) (n := 4) (lo := 2147483648) (hi := 2147483668) (as0 := as_b74) (Eb := Eb_b74) (f := f_b74) (res := rs_b74) (e2_orG_ok (k0 := 231) (a := 83) (j := 11) (n := 4) (lo := 2147483648) (hi := 2147483668) (as0 := as_b73) (Eb := Eb_b73) (f := f_b73) (res := rs_b73) (e2_orG_ok (k0 := 231) (a := 83) (j := 11) (n := 4) (lo := 2147483648) (hi := 2147483668) (as0 := as_b72) (Eb := Eb_b72) (f := f_b72) (res := rs_b72) (e2_orG_ok (k0 := 231) (a := 83) (j := 11) (n := 4) (lo := 2147483648) (hi := 2147483668) (as0 := as_b71) (Eb := Eb_b71) (f := f_b71) (res := rs_b71) (e2_orG_ok (k0 := 231) (a := 83) (j := 11) (n := 4) (lo := 2147483648) (hi := 2147483668) (as0 := as_b70) (Eb := Eb_b70) (f := f_b70) (res := rs_b70) (e2_orG_ok (k0 := 231) (a := 83) (j := 11) (n := 4) (lo := 2147483648) (hi := 2147483668) (as0 := as_b69) (Eb := Eb_b69) (f := f_b69) (res := rs_b69) (e2_orG_ok (k0 := 231) (a := 83) (j := 11) (n := 4) (lo := 2147483648) (hi := 2147483668) (as0 := as_b68) (Eb := Eb_b68) (f := f_b68) (res := rs_b68) (e2_orG_ok (k0 := 231) (a := 83) (j := 11) (n := 4) (lo := 2147483648) (hi := 2147483668) (as0 := as_b67) (Eb := Eb_b67) (f := f_b67) (res := rs_b67) (e2_orG_ok (k0 := 231) (a := 83) (j := 11) (n := 4) (lo := 2147483648) (hi := 2147483668) (as0 := as_b66) (Eb := Eb_b66) (f := f_b66) (res := rs_b66) (e2_orG_ok (k0 := 231) (a := 83) (j := 11) (n := 4) (lo := 2147483648) (hi := 2147483668) (as0 := as_b65) (Eb := Eb_b65) (f := f_b65) (res := rs_b65) (e2_orG_ok (k0 := 231) (a := 83) (j := 11) (n := 4) (lo := 2147483648) (hi := 2147483668) (as0 := as_b64) (Eb := Eb_b64) (f := f_b64) (res := rs_b64) (e2_cal_ok hen (e2_fa (cs_b24 hen l) (e2_fa (cs_b25 hen l) (e2_fa (cs_b26 hen l) (e2_fa (cs_b27 hen l) (e2_fa (cs_b28 hen l) (e2_fa (cs_b29 hen l) (e2_fa (cs_b30 hen l) (e2_fa (cs_b31 hen l) (e2_fa (cs_b32 hen l) (e2_fa (cs_b33 hen l) (e2_fa (cs_b34 hen l) (e2_fa (cs_b35 hen l) (e2_fa (cs_b36 hen l) (e2_fa (cs_b37 hen l) (e2_fa (cs_b38 hen l) (e2_fa (cs_b39 hen l) (e2_fa (cs_b40 hen l) (e2_fa (cs_b41 hen l) (e2_fa (cs_b42 hen l) (e2_fa (cs_b43 hen l) e2_fz)))))))))))))))))))) (e2_fa ein_216 (e2_fa ein_217 (e2_fa ein_227 e2_fz))) 1 d (by omega)) rfl (by decide +kernel) (fun M hM => (cs_b64 hen l).2 M hM d (by omega)) (e2_okGB_ok cog_b64)) rfl (by decide +kernel) (fun M hM => (cs_b65 hen l).2 M hM d (by omega)) (e2_okGB_ok cog_b65)) rfl (by decide +kernel) (fun M hM => (cs_b66 hen l).2 M hM d (by omega)) (e2_okGB_ok cog_b66)) rfl (by decide +kernel) (fun M hM => (cs_b67 hen l).2 M hM d (by omega)) (e2_okGB_ok cog_b67)) rfl (by decide +kernel) (fun M hM => (cs_b68 hen l).2 M hM d (by omega)) (e2_okGB_ok cog_b68)) rfl (by decide +kernel) (fun M hM => (cs_b69 hen l).2 M hM d (by omega)) (e2_okGB_ok cog_b69)) rfl (by decide +kernel) (fun M hM => (cs_b70 hen l).2 M hM d (by omega)) (e2_okGB_ok cog_b70)) rfl (by decide +kernel) (fun M hM => (cs_b71 hen l).2 M hM d (by omega)) (e2_okGB_ok cog_b71)) rfl (by decide +kernel) (fun M hM => (cs_b72 hen l).2 M hM d (by omega)) (e2_okGB_ok cog_b72)) rfl (by decide +kernel) (fun M hM => (cs_b73 hen l).2 M hM d (by omega)) (e2_okGB_ok cog_b73)) rfl (by decide +kernel) (fun M hM => (cs_b74 hen l).2 M hM d (by omega)) (e2_okGB_ok cog_b74)) rfl (by decide +kernel) (fun M hM => (cs_b75 hen l).2 M hM d (by omega)) (e2_okGB_ok cog_b75)) rfl (by decide +kernel) (fun M hM => (cs_b76 hen l).2 M hM d (by omega)) (e2_okGB_ok cog_b76)) rfl (by decide +kernel) (fun M hM => (cs_b77 hen l).2 M hM d (by omega)) (e2_okGB_ok cog_b77)) rfl (by decide +kernel) (fun M hM => (cs_b78 hen l).2 M hM d (by omega)) (e2_okGB_ok cog_b78)) rfl (by decide +kernel) (fun M hM => (cs_b79 hen l).2 M hM d (by omega)) (e2_okGB_ok cog_b79)) rfl (by decide +kernel) (fun M hM => (cs_b80 hen l).2 M hM d (by omega)) (e2_okGB_ok cog_b80)) rfl (by decide +kernel) (fun M hM => (cs_b81 hen l).2 M hM d (by omega)) (e2_okGB_ok cog_b81)) rfl (by decide +kernel) (fun M hM => (cs_b82 hen l).2 M hM d (by omega)) (e2_okGB_ok cog_b82)) rfl (by decide +kernel) (fun M hM => (cs_b83 hen l).2 M hM d (by omega)) (e2_okGB_ok cog_b83))) (by decide) co_b90 fun M d _ hC hcall p e R s m args below meth c Q D cA A ads r0 ha hl0 => ?_
  have EN_120 := e2_cutS_ok (bp := 120) (cuts := cu_b90_120) (e2_cuts_len hl0 (by decide +kernel)) (e2_cuts_ok hen ha hcall (hC [76, 192, 195]) (X := e2x_230) ex2_230 (e2_cuts_len hl0 (by decide +kernel)) ck_b90_u120)
  have L_27 : e2_gdM M p l e R s m args below meth c Q D cA A ads r0 49 al_b90_27 [] E_b90_27 h_b90_27 := by
    refine e2_indD (u := 4) (j := 2) (lo := 2147483647) (hi := 2147483667) hl0 (by decide) rfl rfl rfl ci_b90_27 cj_b90_27 ?_
    intro r_27 k_27 hk_27 hp_27 hs_27 hn_27
    have hl_27 : r_27.length ≤ 5 := hs_27.len rfl
    have ha_27 := ha.ext hp_27
    have L_28 : e2_gdM M p l e R s m args below meth c Q D cA A ads r_27 55 al_b90_28 [] E_b90_28 h_b90_28 := by
      refine e2_indL (u := 5) (j := 3) (lo := 2147483648) (hi := 2147483657) (b := 5) (dd := 0) hl_27 (by decide) rfl rfl (Or.inr ⟨rfl, rfl⟩) rfl ci_b90_28 cj_b90_28 ?_
      intro r_28 k_28 hk_28 hp_28 hs_28 hn_28
      have hl_28 : r_28.length ≤ 6 := hs_28.len rfl
      have ha_28 := ha_27.ext hp_28
      exact e2_fromM hen ha_28 hcall (e2_cutA_ok (e2_fa (fun al st E h hc => (hn_27 al st E h hc).ext hp_28) (e2_fa (fun al st E h hc => hn_28 al st E h hc) e2_fz))) (hC [76, 192, 195]) (X := e2x_230) ex2_230 55 ck_b90_28
    have EN_28 := e2_entL (u := 5) (j := 3) (lo := 2147483648) (hi := 2147483657) hl_27 rfl rfl rfl ci_b90_28 cj_b90_28 L_28
    exact e2_fromM hen ha_27 hcall (e2_cutA_ok (e2_fa (fun al st E h hc => (EN_120 al st E h hc).ext hp_27) (e2_fa (fun al st E h hc => EN_28 al st E h hc) e2_fz))) (hC [76, 192, 195]) (X := e2x_230) ex2_230 49 ck_b90_27
  have EN_27 := e2_entL (u := 4) (j := 2) (lo := 2147483647) (hi := 2147483667) hl0 rfl rfl rfl ci_b90_27 cj_b90_27 L_27
  have L_26 : e2_gdM M p l e R s m args below meth c Q D cA A ads r0 2 al_b90_26 [] E_b90_26 h_b90_26 := by
    refine e2_indL (u := 4) (j := 2) (lo := 2147483648) (hi := 2147483657) (b := 4) (dd := 0) hl0 (by decide) rfl rfl (Or.inr ⟨rfl, rfl⟩) rfl ci_b90_26 cj_b90_26 ?_
    intro r_26 k_26 hk_26 hp_26 hs_26 hn_26
    have hl_26 : r_26.length ≤ 5 := hs_26.len rfl
    have ha_26 := ha.ext hp_26
    exact e2_fromM hen ha_26 hcall (e2_cutA_ok (e2_fa (fun al st E h hc => hn_26 al st E h hc) (e2_fa (fun al st E h hc => (EN_27 al st E h hc).ext hp_26) e2_fz))) (hC [76, 192, 195]) (X := e2x_230) ex2_230 2 ck_b90_26
  have EN_26 := e2_entL (u := 4) (j := 2) (lo := 2147483648) (hi := 2147483657) hl0 rfl rfl rfl ci_b90_26 cj_b90_26 L_26
  exact e2_from hen ha hcall (e2_cutA_ok (e2_fa (fun al st E h hc => EN_26 al st E h hc) e2_fz)) (hC [76, 192, 195]) (X := e2x_230) ex2_230 0 ck_b90_e
/-! b91 X10_read -/
def as_b91 : List ev_V := [(2, 83, 0), (11, 0, 4294967295)]
def E_b91 : e2_E := [(2147483648, 2147583648, 0, 0), (2147483655, 2147483655, 1, 0), (2147483648, 2147483688, 2, 0), (2147483648, 2147483688, 3, 0)]
def bc188 : ev_C := (50, [(11, 2147483649, 2147483654), (11, 2147483649, 2147483654), (11, 2147483649, 2147483654), (11, 2147483649, 2147483654), (11, 2147483649, 2147483654), (11, 2147483649, 2147483654), (11, 2147483649, 2147483654), (11, 2147483648, 2147483654), (11, 2147483648, 2147483654), (11, 2147483648, 2147483654), (11, 2147483648, 2147483654), (11, 2147483648, 2147483654), (11, 2147483648, 2147483654), (11, 2147483648, 2147483654), (11, 2147483648, 2147483654), (11, 2147483648, 2147483654)])
def bn919 : e2_Q1 := (bc188, bc3)
def bn920 : e2_Q2 := (bn130, bn919)
def bn921 : e2_Q3 := (bn129, bn920)
def bn922 : e2_Q4 := (bn921, bn386)
def bn923 : e2_Q5 := (bn922, bn156)
def bn924 : e2_Q6 := (bn923, bn487)
def bn925 : e2_Q7 := (bn924, bn451)
def bn926 : e2_Q8 := (bn477, bn925)
noncomputable def f_b91 : ev_H := (bn926 : e2_Q8)
noncomputable def q_b91_0 : ev_H := (bn926 : e2_Q8)
noncomputable def rs_b91 : e2_Rs := [((11, 2147483647, 2147483668), q_b91_0)]
noncomputable def s_b91 : e2_Sm := (230, as_b91, E_b91, f_b91, rs_b91)
noncomputable def S_b91 : List e2_Sm := [s_b24, s_b25, s_b26, s_b27, s_b28, s_b29, s_b30, s_b31, s_b32, s_b33, s_b34, s_b35, s_b36, s_b37, s_b38, s_b39, s_b40, s_b41, s_b42, s_b43]
noncomputable def I_b91 : List e2_In := [(216, 1, e2x_216), (217, 1, e2x_217), (227, 2, e2x_227)]
set_option maxRecDepth 1000000 in
theorem co_b91 : e2_okSB E_b91.length as_b91 f_b91 rs_b91 = true := by decide +kernel
def al_b91_26 : List ev_V := [(2, 83, 0), (11, 0, 4294967295), (1, 4, 4294967296), (9, 0, 0), (9, 0, 0)]
def E_b91_26 : e2_E := [(2147483648, 2147583648, 0, 0), (2147483655, 2147483655, 1, 0), (2147483648, 2147483688, 2, 0), (2147483648, 2147483688, 3, 0), (2147483648, 2147483657, 4, 0)]
noncomputable def h_b91_26 : ev_H := (bn926 : e2_Q8)
def al_b91_27 : List ev_V := [(2, 83, 0), (11, 0, 4294967295), (1, 4, 4294967296), (9, 0, 0), (9, 0, 0)]
def E_b91_27 : e2_E := [(2147483648, 2147583648, 0, 0), (2147483655, 2147483655, 1, 0), (2147483648, 2147483688, 2, 0), (2147483648, 2147483688, 3, 0), (2147483647, 2147483667, 4, 0)]
noncomputable def h_b91_27 : ev_H := (bn926 : e2_Q8)
def al_b91_28 : List ev_V := [(2, 83, 0), (11, 0, 4294967295), (1, 4, 4294967296), (1, 5, 4294967296), (9, 0, 0)]
def E_b91_28 : e2_E := [(2147483648, 2147583648, 0, 0), (2147483655, 2147483655, 1, 0), (2147483648, 2147483688, 2, 0), (2147483648, 2147483688, 3, 0), (2147483648, 2147483667, 4, 0), (2147483648, 2147483657, 5, 0)]
noncomputable def h_b91_28 : ev_H := (bn926 : e2_Q8)
def bn927 : e2_Q7 := (bn924, bn496)
def bn928 : e2_Q8 := (bn477, bn927)
noncomputable def h_b91_0 : ev_H := (bn928 : e2_Q8)
def bn929 : e2_Q7 := (bn924, bn514)
def bn930 : e2_Q8 := (bn477, bn929)
noncomputable def h_b91_1 : ev_H := (bn930 : e2_Q8)
def bn931 : e2_Q7 := (bn924, bn522)
def bn932 : e2_Q8 := (bn477, bn931)
noncomputable def h_b91_2 : ev_H := (bn932 : e2_Q8)
def bn933 : e2_Q7 := (bn924, bn530)
def bn934 : e2_Q8 := (bn477, bn933)
noncomputable def h_b91_3 : ev_H := (bn934 : e2_Q8)
def bn935 : e2_Q7 := (bn924, bn538)
def bn936 : e2_Q8 := (bn477, bn935)
noncomputable def h_b91_4 : ev_H := (bn936 : e2_Q8)
def bn937 : e2_Q7 := (bn924, bn546)
def bn938 : e2_Q8 := (bn477, bn937)
noncomputable def h_b91_5 : ev_H := (bn938 : e2_Q8)
def bn939 : e2_Q7 := (bn924, bn554)
def bn940 : e2_Q8 := (bn477, bn939)
noncomputable def h_b91_6 : ev_H := (bn940 : e2_Q8)
def bn941 : e2_Q7 := (bn924, bn562)
def bn942 : e2_Q8 := (bn477, bn941)
noncomputable def h_b91_7 : ev_H := (bn942 : e2_Q8)
def bn943 : e2_Q7 := (bn924, bn570)
def bn944 : e2_Q8 := (bn477, bn943)
noncomputable def h_b91_8 : ev_H := (bn944 : e2_Q8)
def bn945 : e2_Q7 := (bn924, bn578)
def bn946 : e2_Q8 := (bn477, bn945)
noncomputable def h_b91_9 : ev_H := (bn946 : e2_Q8)
def bn947 : e2_Q7 := (bn924, bn586)
def bn948 : e2_Q8 := (bn477, bn947)
noncomputable def h_b91_10 : ev_H := (bn948 : e2_Q8)
def bn949 : e2_Q7 := (bn924, bn594)
def bn950 : e2_Q8 := (bn477, bn949)
noncomputable def h_b91_11 : ev_H := (bn950 : e2_Q8)
def bn951 : e2_Q7 := (bn924, bn602)
def bn952 : e2_Q8 := (bn477, bn951)
noncomputable def h_b91_12 : ev_H := (bn952 : e2_Q8)
def bn953 : e2_Q7 := (bn924, bn610)
def bn954 : e2_Q8 := (bn477, bn953)
noncomputable def h_b91_13 : ev_H := (bn954 : e2_Q8)
def bn955 : e2_Q7 := (bn924, bn618)
def bn956 : e2_Q8 := (bn477, bn955)
noncomputable def h_b91_14 : ev_H := (bn956 : e2_Q8)
def bn957 : e2_Q7 := (bn924, bn626)
def bn958 : e2_Q8 := (bn477, bn957)
noncomputable def h_b91_15 : ev_H := (bn958 : e2_Q8)
def bn959 : e2_Q7 := (bn924, bn634)
def bn960 : e2_Q8 := (bn477, bn959)
noncomputable def h_b91_16 : ev_H := (bn960 : e2_Q8)
def bn961 : e2_Q7 := (bn924, bn642)
def bn962 : e2_Q8 := (bn477, bn961)
noncomputable def h_b91_17 : ev_H := (bn962 : e2_Q8)
def bn963 : e2_Q7 := (bn924, bn650)
def bn964 : e2_Q8 := (bn477, bn963)
noncomputable def h_b91_18 : ev_H := (bn964 : e2_Q8)
def bn965 : e2_Q7 := (bn924, bn658)
def bn966 : e2_Q8 := (bn477, bn965)
noncomputable def h_b91_19 : ev_H := (bn966 : e2_Q8)
noncomputable def h_b91_20 : ev_H := (bn926 : e2_Q8)
def bn967 : e2_Q7 := (bn924, bn666)
def bn968 : e2_Q8 := (bn477, bn967)
noncomputable def h_b91_21 : ev_H := (bn968 : e2_Q8)
noncomputable def h_b91_22 : ev_H := (bn968 : e2_Q8)
noncomputable def h_b91_23 : ev_H := (bn968 : e2_Q8)
noncomputable def h_b91_24 : ev_H := (bn968 : e2_Q8)
noncomputable def h_b91_25 : ev_H := (bn968 : e2_Q8)
noncomputable def cu_b91_120 : List e2_Cu := [([(2, 83, 0), (11, 0, 4294967295), (0, 0, 0), (0, 8, 0), (9, 0, 0)], [(2147483648, 2147583648, 0, 0), (2147483655, 2147483655, 1, 0), (2147483648, 2147483688, 2, 0), (2147483648, 2147483688, 3, 0)], h_b91_0),
  ([(2, 83, 0), (11, 0, 4294967295), (0, 1, 0), (11, 2147483648, 2147483656), (11, 2147483647, 2147483654)], [(2147483648, 2147583648, 0, 0), (2147483655, 2147483655, 1, 0), (2147483648, 2147483688, 2, 0), (2147483648, 2147483688, 3, 0)], h_b91_1),
  ([(2, 83, 0), (11, 0, 4294967295), (0, 2, 0), (11, 2147483648, 2147483656), (11, 2147483647, 2147483654)], [(2147483648, 2147583648, 0, 0), (2147483655, 2147483655, 1, 0), (2147483648, 2147483688, 2, 0), (2147483648, 2147483688, 3, 0)], h_b91_2),
  ([(2, 83, 0), (11, 0, 4294967295), (0, 3, 0), (11, 2147483648, 2147483656), (11, 2147483647, 2147483654)], [(2147483648, 2147583648, 0, 0), (2147483655, 2147483655, 1, 0), (2147483648, 2147483688, 2, 0), (2147483648, 2147483688, 3, 0)], h_b91_3),
  ([(2, 83, 0), (11, 0, 4294967295), (0, 4, 0), (11, 2147483648, 2147483656), (11, 2147483647, 2147483654)], [(2147483648, 2147583648, 0, 0), (2147483655, 2147483655, 1, 0), (2147483648, 2147483688, 2, 0), (2147483648, 2147483688, 3, 0)], h_b91_4),
  ([(2, 83, 0), (11, 0, 4294967295), (0, 5, 0), (11, 2147483648, 2147483656), (11, 2147483647, 2147483654)], [(2147483648, 2147583648, 0, 0), (2147483655, 2147483655, 1, 0), (2147483648, 2147483688, 2, 0), (2147483648, 2147483688, 3, 0)], h_b91_5),
  ([(2, 83, 0), (11, 0, 4294967295), (0, 6, 0), (11, 2147483648, 2147483656), (11, 2147483647, 2147483654)], [(2147483648, 2147583648, 0, 0), (2147483655, 2147483655, 1, 0), (2147483648, 2147483688, 2, 0), (2147483648, 2147483688, 3, 0)], h_b91_6),
  ([(2, 83, 0), (11, 0, 4294967295), (0, 7, 0), (11, 2147483648, 2147483656), (11, 2147483647, 2147483654)], [(2147483648, 2147583648, 0, 0), (2147483655, 2147483655, 1, 0), (2147483648, 2147483688, 2, 0), (2147483648, 2147483688, 3, 0)], h_b91_7),
  ([(2, 83, 0), (11, 0, 4294967295), (0, 8, 0), (11, 2147483648, 2147483656), (11, 2147483647, 2147483654)], [(2147483648, 2147583648, 0, 0), (2147483655, 2147483655, 1, 0), (2147483648, 2147483688, 2, 0), (2147483648, 2147483688, 3, 0)], h_b91_8),
  ([(2, 83, 0), (11, 0, 4294967295), (0, 9, 0), (11, 2147483648, 2147483656), (11, 2147483647, 2147483654)], [(2147483648, 2147583648, 0, 0), (2147483655, 2147483655, 1, 0), (2147483648, 2147483688, 2, 0), (2147483648, 2147483688, 3, 0)], h_b91_9),
  ([(2, 83, 0), (11, 0, 4294967295), (0, 10, 0), (11, 2147483648, 2147483656), (11, 2147483647, 2147483654)], [(2147483648, 2147583648, 0, 0), (2147483655, 2147483655, 1, 0), (2147483648, 2147483688, 2, 0), (2147483648, 2147483688, 3, 0)], h_b91_10),
  ([(2, 83, 0), (11, 0, 4294967295), (0, 11, 0), (11, 2147483648, 2147483656), (11, 2147483647, 2147483654)], [(2147483648, 2147583648, 0, 0), (2147483655, 2147483655, 1, 0), (2147483648, 2147483688, 2, 0), (2147483648, 2147483688, 3, 0)], h_b91_11),
  ([(2, 83, 0), (11, 0, 4294967295), (0, 12, 0), (11, 2147483648, 2147483656), (11, 2147483647, 2147483654)], [(2147483648, 2147583648, 0, 0), (2147483655, 2147483655, 1, 0), (2147483648, 2147483688, 2, 0), (2147483648, 2147483688, 3, 0)], h_b91_12),
  ([(2, 83, 0), (11, 0, 4294967295), (0, 13, 0), (11, 2147483648, 2147483656), (11, 2147483647, 2147483654)], [(2147483648, 2147583648, 0, 0), (2147483655, 2147483655, 1, 0), (2147483648, 2147483688, 2, 0), (2147483648, 2147483688, 3, 0)], h_b91_13),
  ([(2, 83, 0), (11, 0, 4294967295), (0, 14, 0), (11, 2147483648, 2147483656), (11, 2147483647, 2147483654)], [(2147483648, 2147583648, 0, 0), (2147483655, 2147483655, 1, 0), (2147483648, 2147483688, 2, 0), (2147483648, 2147483688, 3, 0)], h_b91_14),
  ([(2, 83, 0), (11, 0, 4294967295), (0, 15, 0), (11, 2147483648, 2147483656), (11, 2147483647, 2147483654)], [(2147483648, 2147583648, 0, 0), (2147483655, 2147483655, 1, 0), (2147483648, 2147483688, 2, 0), (2147483648, 2147483688, 3, 0)], h_b91_15),
  ([(2, 83, 0), (11, 0, 4294967295), (0, 16, 0), (11, 2147483648, 2147483656), (11, 2147483647, 2147483654)], [(2147483648, 2147583648, 0, 0), (2147483655, 2147483655, 1, 0), (2147483648, 2147483688, 2, 0), (2147483648, 2147483688, 3, 0)], h_b91_16),
  ([(2, 83, 0), (11, 0, 4294967295), (0, 17, 0), (11, 2147483648, 2147483656), (11, 2147483647, 2147483654)], [(2147483648, 2147583648, 0, 0), (2147483655, 2147483655, 1, 0), (2147483648, 2147483688, 2, 0), (2147483648, 2147483688, 3, 0)], h_b91_17),
  ([(2, 83, 0), (11, 0, 4294967295), (0, 18, 0), (11, 2147483648, 2147483656), (11, 2147483647, 2147483654)], [(2147483648, 2147583648, 0, 0), (2147483655, 2147483655, 1, 0), (2147483648, 2147483688, 2, 0), (2147483648, 2147483688, 3, 0)], h_b91_18),
  ([(2, 83, 0), (11, 0, 4294967295), (0, 19, 0), (11, 2147483648, 2147483656), (11, 2147483647, 2147483654)], [(2147483648, 2147583648, 0, 0), (2147483655, 2147483655, 1, 0), (2147483648, 2147483688, 2, 0), (2147483648, 2147483688, 3, 0)], h_b91_19),
  ([(2, 83, 0), (11, 0, 4294967295), (0, 20, 0), (11, 2147483648, 2147483656), (11, 2147483647, 2147483654)], [(2147483648, 2147583648, 0, 0), (2147483655, 2147483655, 1, 0), (2147483648, 2147483688, 2, 0), (2147483648, 2147483688, 3, 0)], h_b91_20),
  ([(2, 83, 0), (11, 0, 4294967295), (0, 21, 0), (11, 2147483648, 2147483654), (11, 2147483648, 2147483654)], [(2147483648, 2147583648, 0, 0), (2147483655, 2147483655, 1, 0), (2147483648, 2147483688, 2, 0), (2147483648, 2147483688, 3, 0)], h_b91_21),
  ([(2, 83, 0), (11, 0, 4294967295), (0, 22, 0), (11, 2147483648, 2147483654), (11, 2147483648, 2147483654)], [(2147483648, 2147583648, 0, 0), (2147483655, 2147483655, 1, 0), (2147483648, 2147483688, 2, 0), (2147483648, 2147483688, 3, 0)], h_b91_22),
  ([(2, 83, 0), (11, 0, 4294967295), (0, 23, 0), (11, 2147483648, 2147483654), (11, 2147483648, 2147483654)], [(2147483648, 2147583648, 0, 0), (2147483655, 2147483655, 1, 0), (2147483648, 2147483688, 2, 0), (2147483648, 2147483688, 3, 0)], h_b91_23),
  ([(2, 83, 0), (11, 0, 4294967295), (0, 24, 0), (11, 2147483648, 2147483654), (11, 2147483648, 2147483654)], [(2147483648, 2147583648, 0, 0), (2147483655, 2147483655, 1, 0), (2147483648, 2147483688, 2, 0), (2147483648, 2147483688, 3, 0)], h_b91_24),
  ([(2, 83, 0), (11, 0, 4294967295), (0, 25, 0), (11, 2147483648, 2147483654), (11, 2147483648, 2147483654)], [(2147483648, 2147583648, 0, 0), (2147483655, 2147483655, 1, 0), (2147483648, 2147483688, 2, 0), (2147483648, 2147483688, 3, 0)], h_b91_25)]
noncomputable def cl_b91_e : List (Nat × e2_S) := [(2, e2_cutL (al_b91_26.set 2 (11, 2147483648, 2147483657)) 4 (E_b91_26.take 4) h_b91_26)]
set_option maxRecDepth 1000000 in
theorem ck_b91_e : e2_run (e2_orG 231 83 11 4 2147483648 2147483668 as_b83 Eb_b83 f_b83 rs_b83 (e2_orG 231 83 11 4 2147483648 2147483668 as_b82 Eb_b82 f_b82 rs_b82 (e2_orG 231 83 11 4 2147483648 2147483668 as_b81 Eb_b81 f_b81 rs_b81 (e2_orG 231 83 11 4 2147483648 2147483668 as_b80 Eb_b80 f_b80 rs_b80 (e2_orG 231 83 11 4 2147483648 2147483668 as_b79 Eb_b79 f_b79 rs_b79 (e2_orG 231 83 11 4 2147483648 2147483668 as_b78 Eb_b78 f_b78 rs_b78 (e2_orG 231 83 11 4 2147483648 2147483668 as_b77 Eb_b77 f_b77 rs_b77 (e2_orG 231 83 11 4 2147483648 2147483668 as_b76 Eb_b76 f_b76 rs_b76 (e2_orG 231 83 11 4 2147483648 2147483668 as_b75 Eb_b75 f_b75 rs_b75 (e2_orG 231 83 11 4 2147483648 2147483668 as_b74 Eb_b74 f_b74 rs_b74 (e2_orG 231 83 11 4 2147483648 2147483668 as_b73 Eb_b73 f_b73 rs_b73 (e2_orG 231 83 11 4 2147483648 2147483668 as_b72 Eb_b72 f_b72 rs_b72 (e2_orG 231 83 11 4 2147483648 2147483668 as_b71 Eb_b71 f_b71 rs_b71 (e2_orG 231 83 11 4 2147483648 2147483668 as_b70 Eb_b70 f_b70 rs_b70 (e2_orG 231 83 11 4 2147483648 2147483668 as_b69 Eb_b69 f_b69 rs_b69 (e2_orG 231 83 11 4 2147483648 2147483668 as_b68 Eb_b68 f_b68 rs_b68 (e2_orG 231 83 11 4 2147483648 2147483668 as_b67 Eb_b67 f_b67 rs_b67 (e2_orG 231 83 11 4 2147483648 2147483668 as_b66 Eb_b66 f_b66 rs_b66 (e2_orG 231 83 11 4 2147483648 2147483668 as_b65 Eb_b65 f_b65 rs_b65 (e2_orG 231 83 11 4 2147483648 2147483668 as_b64 Eb_b64 f_b64 rs_b64 (e2_cal S_b91 I_b91 4000 1))))))))))))))))))))) (e2_fin rs_b91) e2x_230 (e2_bpL cl_b91_e) (e2_cutA cl_b91_e) 4000 (e2_seek e2x_230 0) (e2_al 5 as_b91) [] E_b91 f_b91 = true := by decide +kernel
noncomputable def cl_b91_26 : List (Nat × e2_S) := [(2, e2_cutL (al_b91_26.set 2 (13, 12, 2147483657)) 4 (E_b91_26.take 4) h_b91_26),
  (49, e2_cutL (al_b91_27.set 2 (11, 2147483647, 2147483667)) 4 (E_b91_27.take 4) h_b91_27)]
set_option maxRecDepth 1000000 in
theorem ck_b91_26 : e2_runM (e2_orG 231 83 11 4 2147483648 2147483668 as_b83 Eb_b83 f_b83 rs_b83 (e2_orG 231 83 11 4 2147483648 2147483668 as_b82 Eb_b82 f_b82 rs_b82 (e2_orG 231 83 11 4 2147483648 2147483668 as_b81 Eb_b81 f_b81 rs_b81 (e2_orG 231 83 11 4 2147483648 2147483668 as_b80 Eb_b80 f_b80 rs_b80 (e2_orG 231 83 11 4 2147483648 2147483668 as_b79 Eb_b79 f_b79 rs_b79 (e2_orG 231 83 11 4 2147483648 2147483668 as_b78 Eb_b78 f_b78 rs_b78 (e2_orG 231 83 11 4 2147483648 2147483668 as_b77 Eb_b77 f_b77 rs_b77 (e2_orG 231 83 11 4 2147483648 2147483668 as_b76 Eb_b76 f_b76 rs_b76 (e2_orG 231 83 11 4 2147483648 2147483668 as_b75 Eb_b75 f_b75 rs_b75 (e2_orG 231 83 11 4 2147483648 2147483668 as_b74 Eb_b74 f_b74 rs_b74 (e2_orG 231 83 11 4 2147483648 2147483668 as_b73 Eb_b73 f_b73 rs_b73 (e2_orG 231 83 11 4 2147483648 2147483668 as_b72 Eb_b72 f_b72 rs_b72 (e2_orG 231 83 11 4 2147483648 2147483668 as_b71 Eb_b71 f_b71 rs_b71 (e2_orG 231 83 11 4 2147483648 2147483668 as_b70 Eb_b70 f_b70 rs_b70 (e2_orG 231 83 11 4 2147483648 2147483668 as_b69 Eb_b69 f_b69 rs_b69 (e2_orG 231 83 11 4 2147483648 2147483668 as_b68 Eb_b68 f_b68 rs_b68 (e2_orG 231 83 11 4 2147483648 2147483668 as_b67 Eb_b67 f_b67 rs_b67 (e2_orG 231 83 11 4 2147483648 2147483668 as_b66 Eb_b66 f_b66 rs_b66 (e2_orG 231 83 11 4 2147483648 2147483668 as_b65 Eb_b65 f_b65 rs_b65 (e2_orG 231 83 11 4 2147483648 2147483668 as_b64 Eb_b64 f_b64 rs_b64 (e2_cal S_b91 I_b91 4000 1))))))))))))))))))))) (e2_fin rs_b91) e2x_230 (e2_bpL cl_b91_26) (e2_cutA cl_b91_26) 4000 (e2_seek e2x_230 2) al_b91_26 [] E_b91_26 h_b91_26 = true := by decide +kernel
set_option maxRecDepth 1000000 in
theorem ci_b91_26 : e2_idl 4 (al_b91_26.set 2 (9, 0, 0)) = true := by decide +kernel
set_option maxRecDepth 1000000 in
theorem cj_b91_26 : e2_idh 4 8 h_b91_26 = true := by decide +kernel
noncomputable def cl_b91_27 : List (Nat × e2_S) := [(120, e2_cutS cu_b91_120),
  (55, e2_cutL (al_b91_28.set 3 (11, 2147483648, 2147483657)) 5 (E_b91_28.take 5) h_b91_28)]
set_option maxRecDepth 1000000 in
theorem ck_b91_27 : e2_runM (e2_orG 231 83 11 4 2147483648 2147483668 as_b83 Eb_b83 f_b83 rs_b83 (e2_orG 231 83 11 4 2147483648 2147483668 as_b82 Eb_b82 f_b82 rs_b82 (e2_orG 231 83 11 4 2147483648 2147483668 as_b81 Eb_b81 f_b81 rs_b81 (e2_orG 231 83 11 4 2147483648 2147483668 as_b80 Eb_b80 f_b80 rs_b80 (e2_orG 231 83 11 4 2147483648 2147483668 as_b79 Eb_b79 f_b79 rs_b79 (e2_orG 231 83 11 4 2147483648 2147483668 as_b78 Eb_b78 f_b78 rs_b78 (e2_orG 231 83 11 4 2147483648 2147483668 as_b77 Eb_b77 f_b77 rs_b77 (e2_orG 231 83 11 4 2147483648 2147483668 as_b76 Eb_b76 f_b76 rs_b76 (e2_orG 231 83 11 4 2147483648 2147483668 as_b75 Eb_b75 f_b75 rs_b75 (e2_orG 231 83 11 4 2147483648 2147483668 as_b74 Eb_b74 f_b74 rs_b74 (e2_orG 231 83 11 4 2147483648 2147483668 as_b73 Eb_b73 f_b73 rs_b73 (e2_orG 231 83 11 4 2147483648 2147483668 as_b72 Eb_b72 f_b72 rs_b72 (e2_orG 231 83 11 4 2147483648 2147483668 as_b71 Eb_b71 f_b71 rs_b71 (e2_orG 231 83 11 4 2147483648 2147483668 as_b70 Eb_b70 f_b70 rs_b70 (e2_orG 231 83 11 4 2147483648 2147483668 as_b69 Eb_b69 f_b69 rs_b69 (e2_orG 231 83 11 4 2147483648 2147483668 as_b68 Eb_b68 f_b68 rs_b68 (e2_orG 231 83 11 4 2147483648 2147483668 as_b67 Eb_b67 f_b67 rs_b67 (e2_orG 231 83 11 4 2147483648 2147483668 as_b66 Eb_b66 f_b66 rs_b66 (e2_orG 231 83 11 4 2147483648 2147483668 as_b65 Eb_b65 f_b65 rs_b65 (e2_orG 231 83 11 4 2147483648 2147483668 as_b64 Eb_b64 f_b64 rs_b64 (e2_cal S_b91 I_b91 4000 1))))))))))))))))))))) (e2_fin rs_b91) e2x_230 (e2_bpL cl_b91_27) (e2_cutA cl_b91_27) 4000 (e2_seek e2x_230 49) al_b91_27 [] E_b91_27 h_b91_27 = true := by decide +kernel
set_option maxRecDepth 1000000 in
theorem ci_b91_27 : e2_idl 4 (al_b91_27.set 2 (9, 0, 0)) = true := by decide +kernel
set_option maxRecDepth 1000000 in
theorem cj_b91_27 : e2_idh 4 8 h_b91_27 = true := by decide +kernel
noncomputable def cl_b91_28 : List (Nat × e2_S) := [(49, e2_cutL (al_b91_27.set 2 (12, 12, 2147483647)) 4 (E_b91_27.take 4) h_b91_27),
  (55, e2_cutL (al_b91_28.set 3 (13, 13, 2147483657)) 5 (E_b91_28.take 5) h_b91_28)]
set_option maxRecDepth 1000000 in
theorem ck_b91_28 : e2_runM (e2_orG 231 83 11 4 2147483648 2147483668 as_b83 Eb_b83 f_b83 rs_b83 (e2_orG 231 83 11 4 2147483648 2147483668 as_b82 Eb_b82 f_b82 rs_b82 (e2_orG 231 83 11 4 2147483648 2147483668 as_b81 Eb_b81 f_b81 rs_b81 (e2_orG 231 83 11 4 2147483648 2147483668 as_b80 Eb_b80 f_b80 rs_b80 (e2_orG 231 83 11 4 2147483648 2147483668 as_b79 Eb_b79 f_b79 rs_b79 (e2_orG 231 83 11 4 2147483648 2147483668 as_b78 Eb_b78 f_b78 rs_b78 (e2_orG 231 83 11 4 2147483648 2147483668 as_b77 Eb_b77 f_b77 rs_b77 (e2_orG 231 83 11 4 2147483648 2147483668 as_b76 Eb_b76 f_b76 rs_b76 (e2_orG 231 83 11 4 2147483648 2147483668 as_b75 Eb_b75 f_b75 rs_b75 (e2_orG 231 83 11 4 2147483648 2147483668 as_b74 Eb_b74 f_b74 rs_b74 (e2_orG 231 83 11 4 2147483648 2147483668 as_b73 Eb_b73 f_b73 rs_b73 (e2_orG 231 83 11 4 2147483648 2147483668 as_b72 Eb_b72 f_b72 rs_b72 (e2_orG 231 83 11 4 2147483648 2147483668 as_b71 Eb_b71 f_b71 rs_b71 (e2_orG 231 83 11 4 2147483648 2147483668 as_b70 Eb_b70 f_b70 rs_b70 (e2_orG 231 83 11 4 2147483648 2147483668 as_b69 Eb_b69 f_b69 rs_b69 (e2_orG 231 83 11 4 2147483648 2147483668 as_b68 Eb_b68 f_b68 rs_b68 (e2_orG 231 83 11 4 2147483648 2147483668 as_b67 Eb_b67 f_b67 rs_b67 (e2_orG 231 83 11 4 2147483648 2147483668 as_b66 Eb_b66 f_b66 rs_b66 (e2_orG 231 83 11 4 2147483648 2147483668 as_b65 Eb_b65 f_b65 rs_b65 (e2_orG 231 83 11 4 2147483648 2147483668 as_b64 Eb_b64 f_b64 rs_b64 (e2_cal S_b91 I_b91 4000 1))))))))))))))))))))) (e2_fin rs_b91) e2x_230 (e2_bpL cl_b91_28) (e2_cutA cl_b91_28) 4000 (e2_seek e2x_230 55) al_b91_28 [] E_b91_28 h_b91_28 = true := by decide +kernel
set_option maxRecDepth 1000000 in
theorem ci_b91_28 : e2_idl 5 (al_b91_28.set 3 (9, 0, 0)) = true := by decide +kernel
set_option maxRecDepth 1000000 in
theorem cj_b91_28 : e2_idh 5 8 h_b91_28 = true := by decide +kernel
set_option maxRecDepth 1000000 in
theorem ck_b91_u120 : e2_cutsB (e2_orG 231 83 11 4 2147483648 2147483668 as_b83 Eb_b83 f_b83 rs_b83 (e2_orG 231 83 11 4 2147483648 2147483668 as_b82 Eb_b82 f_b82 rs_b82 (e2_orG 231 83 11 4 2147483648 2147483668 as_b81 Eb_b81 f_b81 rs_b81 (e2_orG 231 83 11 4 2147483648 2147483668 as_b80 Eb_b80 f_b80 rs_b80 (e2_orG 231 83 11 4 2147483648 2147483668 as_b79 Eb_b79 f_b79 rs_b79 (e2_orG 231 83 11 4 2147483648 2147483668 as_b78 Eb_b78 f_b78 rs_b78 (e2_orG 231 83 11 4 2147483648 2147483668 as_b77 Eb_b77 f_b77 rs_b77 (e2_orG 231 83 11 4 2147483648 2147483668 as_b76 Eb_b76 f_b76 rs_b76 (e2_orG 231 83 11 4 2147483648 2147483668 as_b75 Eb_b75 f_b75 rs_b75 (e2_orG 231 83 11 4 2147483648 2147483668 as_b74 Eb_b74 f_b74 rs_b74 (e2_orG 231 83 11 4 2147483648 2147483668 as_b73 Eb_b73 f_b73 rs_b73 (e2_orG 231 83 11 4 2147483648 2147483668 as_b72 Eb_b72 f_b72 rs_b72 (e2_orG 231 83 11 4 2147483648 2147483668 as_b71 Eb_b71 f_b71 rs_b71 (e2_orG 231 83 11 4 2147483648 2147483668 as_b70 Eb_b70 f_b70 rs_b70 (e2_orG 231 83 11 4 2147483648 2147483668 as_b69 Eb_b69 f_b69 rs_b69 (e2_orG 231 83 11 4 2147483648 2147483668 as_b68 Eb_b68 f_b68 rs_b68 (e2_orG 231 83 11 4 2147483648 2147483668 as_b67 Eb_b67 f_b67 rs_b67 (e2_orG 231 83 11 4 2147483648 2147483668 as_b66 Eb_b66 f_b66 rs_b66 (e2_orG 231 83 11 4 2147483648 2147483668 as_b65 Eb_b65 f_b65 rs_b65 (e2_orG 231 83 11 4 2147483648 2147483668 as_b64 Eb_b64 f_b64 rs_b64 (e2_cal S_b91 I_b91 4000 1))))))))))))))))))))) (e2_fin rs_b91) e2x_230 120 4000 cu_b91_120 = true := by decide +kernel
set_option maxRecDepth 1000000 in
theorem cs_b91 (hen : en_ok) (l : Launch) : e2_smOk l 5 s_b91 := by
  refine e2_conC (H := 4) (C := evd_230) (call := (e2_orG 231 83 11 4 2147483648 2147483668 as_b83 Eb_b83 f_b83 rs_b83 (e2_orG 231 83 11 4 2147483648 2147483668 as_b82 Eb_b82 f_b82 rs_b82 (e2_orG 231 83 11 4 2147483648 2147483668 as_b81 Eb_b81 f_b81 rs_b81 (e2_orG 231 83 11 4 2147483648 2147483668 as_b80 Eb_b80 f_b80 rs_b80 (e2_orG 231 83 11 4 2147483648 2147483668 as_b79 Eb_b79 f_b79 rs_b79 (e2_orG 231 83 11 4 2147483648 2147483668 as_b78 Eb_b78 f_b78 rs_b78 (e2_orG 231 83 11 4 2147483648 2147483668 as_b77 Eb_b77 f_b77 rs_b77 (e2_orG 231 83 11 4 2147483648 2147483668 as_b76 Eb_b76 f_b76 rs_b76 (e2_orG 231 83 11 4 2147483648 2147483668 as_b75 Eb_b75 f_b75 rs_b75 (e2_orG 231 83 11 4 2147483648 2147483668 as_b74 Eb_b74 f_b74 rs_b74 (e2_orG 231 83 11 4 2147483648 2147483668 as_b73 Eb_b73 f_b73 rs_b73 (e2_orG 231 83 11 4 2147483648 2147483668 as_b72 Eb_b72 f_b72 rs_b72 (e2_orG 231 83 11 4 2147483648 2147483668 as_b71 Eb_b71 f_b71 rs_b71 (e2_orG 231 83 11 4 2147483648 2147483668 as_b70 Eb_b70 f_b70 rs_b70 (e2_orG 231 83 11 4 2147483648 2147483668 as_b69 Eb_b69 f_b69 rs_b69 (e2_orG 231 83 11 4 2147483648 2147483668 as_b68 Eb_b68 f_b68 rs_b68 (e2_orG 231 83 11 4 2147483648 2147483668 as_b67 Eb_b67 f_b67 rs_b67 (e2_orG 231 83 11 4 2147483648 2147483668 as_b66 Eb_b66 f_b66 rs_b66 (e2_orG 231 83 11 4 2147483648 2147483668 as_b65 Eb_b65 f_b65 rs_b65 (e2_orG 231 83 11 4 2147483648 2147483668 as_b64 Eb_b64 f_b64 rs_b64 (e2_cal S_b91 I_b91 4000 1)))))))))))))))))))))) ei_230 (fun d hd => (e2_orG_ok (k0 := 231) (a := 83) (j := 11) (n := 4) (lo := 2147483648) (hi := 2147483668) (as0 := as_b83) (Eb := Eb_b83) (f := f_b83) (res := rs_b83) (e2_orG_ok (k0 := 231) (a := 83) (j := 11) (n := 4) (lo := 2147483648) (hi := 2147483668) (as0 := as_b82) (Eb := Eb_b82) (f := f_b82) (res := rs_b82) (e2_orG_ok (k0 := 231) (a := 83) (j := 11) (n := 4) (lo := 2147483648) (hi := 2147483668) (as0 := as_b81) (Eb := Eb_b81) (f := f_b81) (res := rs_b81) (e2_orG_ok (k0 := 231) (a := 83) (j := 11) (n := 4) (lo := 2147483648) (hi := 2147483668) (as0 := as_b80) (Eb := Eb_b80) (f := f_b80) (res := rs_b80) (e2_orG_ok (k0 := 231) (a := 83) (j := 11) (n := 4) (lo := 2147483648) (hi := 2147483668) (as0 := as_b79) (Eb := Eb_b79) (f := f_b79) (res := rs_b79) (e2_orG_ok (k0 := 231) (a := 83) (j := 11) (n := 4) (lo := 2147483648) (hi := 2147483668) (as0 := as_b78) (Eb := Eb_b78) (f := f_b78) (res := rs_b78) (e2_orG_ok (k0 := 231) (a := 83) (j := 11) (n := 4) (lo := 2147483648) (hi := 2147483668) (as0 := as_b77) (Eb := Eb_b77) (f := f_b77) (res := rs_b77) (e2_orG_ok (k0 := 231) (a := 83) (j := 11) (n := 4) (lo := 2147483648) (hi := 2147483668) (as0 := as_b76) (Eb := Eb_b76) (f := f_b76) (res := rs_b76) (e2_orG_ok (k0 := 231) (a := 83) (j := 11) (n := 4) (lo := 2147483648) (hi := 2147483668) (as0 := as_b75) (Eb := Eb_b75) (f := f_b75) (res := rs_b75) (e2_orG_ok (k0 := 231) (a := 83) (j := 11) (n := 4) (lo := 2147483648) (hi := 2147483668) (as0 := as_b74) (Eb := Eb_b74) (f := f_b74) (res := rs_b74) (e2_orG_ok (k0 := 231) (a := 83) (j := 11) (n := 4) (lo := 2147483648) (hi := 2147483668) (as0 := as_b73) (Eb := Eb_b73) (f := f_b73) (res := rs_b73) (e2_orG_ok (k0 := 231) (a := 83) (j := 11) (n := 4) (lo := 2147483648) (hi := 2147483668) (as0 := as_b72) (Eb := Eb_b72) (f := f_b72) (res := rs_b72) (e2_orG_ok (k0 := 231) (a := 83) (j := 11) (n := 4) (lo := 2147483648) (hi := 2147483668) (as0 := as_b71) (Eb := Eb_b71) (f := f_b71) (res := rs_b71) (e2_orG_ok (k0 := 231) (a := 83) (j := 11) (n := 4) (lo := 2147483648) (hi := 2147483668) (as0 := as_b70) (Eb := Eb_b70) (f := f_b70) (res := rs_b70) (e2_orG_ok (k0 := 231) (a := 83) (j := 11) (n := 4) (lo := 2147483648) (hi := 2147483668) (as0 := as_b69) (Eb := Eb_b69) (f := f_b69) (res := rs_b69) (e2_orG_ok (k0 := 231) (a := 83) (j := 11) (n := 4) (lo := 2147483648) (hi := 2147483668) (as0 := as_b68) (Eb := Eb_b68) (f := f_b68) (res := rs_b68) (e2_orG_ok (k0 := 231) (a := 83) (j := 11) (n := 4) (lo := 2147483648) (hi := 2147483668) (as0 := as_b67) (Eb := Eb_b67) (f := f_b67) (res := rs_b67) (e2_orG_ok (k0 := 231) (a := 83) (j := 11) (n := 4) (lo := 2147483648) (hi := 2147483668) (as0 := as_b66) (Eb := Eb_b66) (f := f_b66) (res := rs_b66) (e2_orG_ok (k0 := 231) (a := 83) (j := 11) (n := 4) (lo := 2147483648) (hi := 2147483668) (as0 := as_b65) (Eb := Eb_b65) (f := f_b65) (res := rs_b65) (e2_orG_ok (k0 := 231) (a := 83) (j := 11) (n := 4) (lo := 2147483648) (hi := 2147483668) (as0 := as_b64) (Eb := Eb_b64) (f := f_b64) (res := rs_b64) (e2_cal_ok hen (e2_fa (cs_b24 hen l) (e2_fa (cs_b25 hen l) (e2_fa (cs_b26 hen l) (e2_fa (cs_b27 hen l) (e2_fa (cs_b28 hen l) (e2_fa (cs_b29 hen l) (e2_fa (cs_b30 hen l) (e2_fa (cs_b31 hen l) (e2_fa (cs_b32 hen l) (e2_fa (cs_b33 hen l) (e2_fa (cs_b34 hen l) (e2_fa (cs_b35 hen l) (e2_fa (cs_b36 hen l) (e2_fa (cs_b37 hen l) (e2_fa (cs_b38 hen l) (e2_fa (cs_b39 hen l) (e2_fa (cs_b40 hen l) (e2_fa (cs_b41 hen l) (e2_fa (cs_b42 hen l) (e2_fa (cs_b43 hen l) e2_fz)))))))))))))))))))) (e2_fa ein_216 (e2_fa ein_217 (e2_fa ein_227 e2_fz))) 1 d (by omega)) rfl (by decide +kernel) (fun M hM => (cs_b64 hen l).2 M hM d (by omega)) (e2_okGB_ok cog_b64)) rfl (by decide +kernel) (fun M hM => (cs_b65 hen l).2 M hM d (by omega)) (e2_okGB_ok cog_b65)) rfl (by decide +kernel) (fun M hM => (cs_b66 hen l).2 M hM d (by omega)) (e2_okGB_ok cog_b66)) rfl (by decide +kernel) (fun M hM => (cs_b67 hen l).2 M hM d (by omega)) (e2_okGB_ok cog_b67)) rfl (by decide +kernel) (fun M hM => (cs_b68 hen l).2 M hM d (by omega)) (e2_okGB_ok cog_b68)) rfl (by decide +kernel) (fun M hM => (cs_b69 hen l).2 M hM d (by omega)) (e2_okGB_ok cog_b69)) rfl (by decide +kernel) (fun M hM => (cs_b70 hen l).2 M hM d (by omega)) (e2_okGB_ok cog_b70)) rfl (by decide +kernel) (fun M hM => (cs_b71 hen l).2 M hM d (by omega)) (e2_okGB_ok cog_b71)) rfl (by decide +kernel) (fun M hM => (cs_b72 hen l).2 M hM d (by omega)) (e2_okGB_ok cog_b72)) rfl (by decide +kernel) (fun M hM => (cs_b73 hen l).2 M hM d (by omega)) (e2_okGB_ok cog_b73)) rfl (by decide +kernel) (fun M hM => (cs_b74 hen l).2 M hM d (by omega)) (e2_okGB_ok cog_b74)) rfl (by decide +kernel) (fun M hM => (cs_b75 hen l).2 M hM d (by omega)) (e2_okGB_ok cog_b75)) rfl (by decide +kernel) (fun M hM => (cs_b76 hen l).2 M hM d (by omega)) (e2_okGB_ok cog_b76)) rfl (by decide +kernel) (fun M hM => (cs_b77 hen l).2 M hM d (by omega)) (e2_okGB_ok cog_b77)) rfl (by decide +kernel) (fun M hM => (cs_b78 hen l).2 M hM d (by omega)) (e2_okGB_ok cog_b78)) rfl (by decide +kernel) (fun M hM => (cs_b79 hen l).2 M hM d (by omega)) (e2_okGB_ok cog_b79)) rfl (by decide +kernel) (fun M hM => (cs_b80 hen l).2 M hM d (by omega)) (e2_okGB_ok cog_b80)) rfl (by decide +kernel) (fun M hM => (cs_b81 hen l).2 M hM d (by omega)) (e2_okGB_ok cog_b81)) rfl (by decide +kernel) (fun M hM => (cs_b82 hen l).2 M hM d (by omega)) (e2_okGB_ok cog_b82)) rfl (by decide +kernel) (fun M hM => (cs_b83 hen l).2 M hM d (by omega)) (e2_okGB_ok cog_b83))) (by decide) co_b91 fun M d _ hC hcall p e R s m args below meth c Q D cA A ads r0 ha hl0 => ?_
  have EN_120 := e2_cutS_ok (bp := 120) (cuts := cu_b91_120) (e2_cuts_len hl0 (by decide +kernel)) (e2_cuts_ok hen ha hcall (hC [76, 192, 195]) (X := e2x_230) ex2_230 (e2_cuts_len hl0 (by decide +kernel)) ck_b91_u120)
  have L_27 : e2_gdM M p l e R s m args below meth c Q D cA A ads r0 49 al_b91_27 [] E_b91_27 h_b91_27 := by
    refine e2_indD (u := 4) (j := 2) (lo := 2147483647) (hi := 2147483667) hl0 (by decide) rfl rfl rfl ci_b91_27 cj_b91_27 ?_
    intro r_27 k_27 hk_27 hp_27 hs_27 hn_27
    have hl_27 : r_27.length ≤ 5 := hs_27.len rfl
    have ha_27 := ha.ext hp_27
    have L_28 : e2_gdM M p l e R s m args below meth c Q D cA A ads r_27 55 al_b91_28 [] E_b91_28 h_b91_28 := by
      refine e2_indL (u := 5) (j := 3) (lo := 2147483648) (hi := 2147483657) (b := 5) (dd := 0) hl_27 (by decide) rfl rfl (Or.inr ⟨rfl, rfl⟩) rfl ci_b91_28 cj_b91_28 ?_
      intro r_28 k_28 hk_28 hp_28 hs_28 hn_28
      have hl_28 : r_28.length ≤ 6 := hs_28.len rfl
      have ha_28 := ha_27.ext hp_28
      exact e2_fromM hen ha_28 hcall (e2_cutA_ok (e2_fa (fun al st E h hc => (hn_27 al st E h hc).ext hp_28) (e2_fa (fun al st E h hc => hn_28 al st E h hc) e2_fz))) (hC [76, 192, 195]) (X := e2x_230) ex2_230 55 ck_b91_28
    have EN_28 := e2_entL (u := 5) (j := 3) (lo := 2147483648) (hi := 2147483657) hl_27 rfl rfl rfl ci_b91_28 cj_b91_28 L_28
    exact e2_fromM hen ha_27 hcall (e2_cutA_ok (e2_fa (fun al st E h hc => (EN_120 al st E h hc).ext hp_27) (e2_fa (fun al st E h hc => EN_28 al st E h hc) e2_fz))) (hC [76, 192, 195]) (X := e2x_230) ex2_230 49 ck_b91_27
  have EN_27 := e2_entL (u := 4) (j := 2) (lo := 2147483647) (hi := 2147483667) hl0 rfl rfl rfl ci_b91_27 cj_b91_27 L_27
  have L_26 : e2_gdM M p l e R s m args below meth c Q D cA A ads r0 2 al_b91_26 [] E_b91_26 h_b91_26 := by
    refine e2_indL (u := 4) (j := 2) (lo := 2147483648) (hi := 2147483657) (b := 4) (dd := 0) hl0 (by decide) rfl rfl (Or.inr ⟨rfl, rfl⟩) rfl ci_b91_26 cj_b91_26 ?_
    intro r_26 k_26 hk_26 hp_26 hs_26 hn_26
    have hl_26 : r_26.length ≤ 5 := hs_26.len rfl
    have ha_26 := ha.ext hp_26
    exact e2_fromM hen ha_26 hcall (e2_cutA_ok (e2_fa (fun al st E h hc => hn_26 al st E h hc) (e2_fa (fun al st E h hc => (EN_27 al st E h hc).ext hp_26) e2_fz))) (hC [76, 192, 195]) (X := e2x_230) ex2_230 2 ck_b91_26
  have EN_26 := e2_entL (u := 4) (j := 2) (lo := 2147483648) (hi := 2147483657) hl0 rfl rfl rfl ci_b91_26 cj_b91_26 L_26
  exact e2_from hen ha hcall (e2_cutA_ok (e2_fa (fun al st E h hc => EN_26 al st E h hc) e2_fz)) (hC [76, 192, 195]) (X := e2x_230) ex2_230 0 ck_b91_e
/-! b92 X10_read -/
def as_b92 : List ev_V := [(2, 83, 0), (11, 0, 4294967295)]
def E_b92 : e2_E := [(2147483648, 2147583648, 0, 0), (2147483656, 2147483656, 1, 0), (2147483648, 2147483688, 2, 0), (2147483648, 2147483688, 3, 0)]
def bc189 : ev_C := (50, [(11, 2147483649, 2147483654), (11, 2147483649, 2147483654), (11, 2147483649, 2147483654), (11, 2147483649, 2147483654), (11, 2147483649, 2147483654), (11, 2147483649, 2147483654), (11, 2147483649, 2147483654), (11, 2147483649, 2147483654), (11, 2147483648, 2147483654), (11, 2147483648, 2147483654), (11, 2147483648, 2147483654), (11, 2147483648, 2147483654), (11, 2147483648, 2147483654), (11, 2147483648, 2147483654), (11, 2147483648, 2147483654), (11, 2147483648, 2147483654)])
def bn969 : e2_Q1 := (bc189, bc3)
def bn970 : e2_Q2 := (bn130, bn969)
def bn971 : e2_Q3 := (bn129, bn970)
def bn972 : e2_Q4 := (bn971, bn386)
def bn973 : e2_Q5 := (bn972, bn156)
def bn974 : e2_Q6 := (bn973, bn487)
def bn975 : e2_Q7 := (bn974, bn451)
def bn976 : e2_Q8 := (bn477, bn975)
noncomputable def f_b92 : ev_H := (bn976 : e2_Q8)
noncomputable def q_b92_0 : ev_H := (bn976 : e2_Q8)
noncomputable def rs_b92 : e2_Rs := [((11, 2147483647, 2147483668), q_b92_0)]
noncomputable def s_b92 : e2_Sm := (230, as_b92, E_b92, f_b92, rs_b92)
noncomputable def S_b92 : List e2_Sm := [s_b24, s_b25, s_b26, s_b27, s_b28, s_b29, s_b30, s_b31, s_b32, s_b33, s_b34, s_b35, s_b36, s_b37, s_b38, s_b39, s_b40, s_b41, s_b42, s_b43]
noncomputable def I_b92 : List e2_In := [(216, 1, e2x_216), (217, 1, e2x_217), (227, 2, e2x_227)]
set_option maxRecDepth 1000000 in
theorem co_b92 : e2_okSB E_b92.length as_b92 f_b92 rs_b92 = true := by decide +kernel
def al_b92_26 : List ev_V := [(2, 83, 0), (11, 0, 4294967295), (1, 4, 4294967296), (9, 0, 0), (9, 0, 0)]
def E_b92_26 : e2_E := [(2147483648, 2147583648, 0, 0), (2147483656, 2147483656, 1, 0), (2147483648, 2147483688, 2, 0), (2147483648, 2147483688, 3, 0), (2147483648, 2147483657, 4, 0)]
noncomputable def h_b92_26 : ev_H := (bn976 : e2_Q8)
def al_b92_27 : List ev_V := [(2, 83, 0), (11, 0, 4294967295), (1, 4, 4294967296), (9, 0, 0), (9, 0, 0)]
def E_b92_27 : e2_E := [(2147483648, 2147583648, 0, 0), (2147483656, 2147483656, 1, 0), (2147483648, 2147483688, 2, 0), (2147483648, 2147483688, 3, 0), (2147483647, 2147483667, 4, 0)]
noncomputable def h_b92_27 : ev_H := (bn976 : e2_Q8)
def al_b92_28 : List ev_V := [(2, 83, 0), (11, 0, 4294967295), (1, 4, 4294967296), (1, 5, 4294967296), (9, 0, 0)]
def E_b92_28 : e2_E := [(2147483648, 2147583648, 0, 0), (2147483656, 2147483656, 1, 0), (2147483648, 2147483688, 2, 0), (2147483648, 2147483688, 3, 0), (2147483648, 2147483667, 4, 0), (2147483648, 2147483657, 5, 0)]
noncomputable def h_b92_28 : ev_H := (bn976 : e2_Q8)
def bn977 : e2_Q7 := (bn974, bn496)
def bn978 : e2_Q8 := (bn477, bn977)
noncomputable def h_b92_0 : ev_H := (bn978 : e2_Q8)
def bn979 : e2_Q7 := (bn974, bn514)
def bn980 : e2_Q8 := (bn477, bn979)
noncomputable def h_b92_1 : ev_H := (bn980 : e2_Q8)
def bn981 : e2_Q7 := (bn974, bn522)
def bn982 : e2_Q8 := (bn477, bn981)
noncomputable def h_b92_2 : ev_H := (bn982 : e2_Q8)
def bn983 : e2_Q7 := (bn974, bn530)
def bn984 : e2_Q8 := (bn477, bn983)
noncomputable def h_b92_3 : ev_H := (bn984 : e2_Q8)
def bn985 : e2_Q7 := (bn974, bn538)
def bn986 : e2_Q8 := (bn477, bn985)
noncomputable def h_b92_4 : ev_H := (bn986 : e2_Q8)
def bn987 : e2_Q7 := (bn974, bn546)
def bn988 : e2_Q8 := (bn477, bn987)
noncomputable def h_b92_5 : ev_H := (bn988 : e2_Q8)
def bn989 : e2_Q7 := (bn974, bn554)
def bn990 : e2_Q8 := (bn477, bn989)
noncomputable def h_b92_6 : ev_H := (bn990 : e2_Q8)
def bn991 : e2_Q7 := (bn974, bn562)
def bn992 : e2_Q8 := (bn477, bn991)
noncomputable def h_b92_7 : ev_H := (bn992 : e2_Q8)
def bn993 : e2_Q7 := (bn974, bn570)
def bn994 : e2_Q8 := (bn477, bn993)
noncomputable def h_b92_8 : ev_H := (bn994 : e2_Q8)
def bn995 : e2_Q7 := (bn974, bn578)
def bn996 : e2_Q8 := (bn477, bn995)
noncomputable def h_b92_9 : ev_H := (bn996 : e2_Q8)
def bn997 : e2_Q7 := (bn974, bn586)
def bn998 : e2_Q8 := (bn477, bn997)
noncomputable def h_b92_10 : ev_H := (bn998 : e2_Q8)
def bn999 : e2_Q7 := (bn974, bn594)
def bn1000 : e2_Q8 := (bn477, bn999)
noncomputable def h_b92_11 : ev_H := (bn1000 : e2_Q8)
def bn1001 : e2_Q7 := (bn974, bn602)
def bn1002 : e2_Q8 := (bn477, bn1001)
noncomputable def h_b92_12 : ev_H := (bn1002 : e2_Q8)
def bn1003 : e2_Q7 := (bn974, bn610)
def bn1004 : e2_Q8 := (bn477, bn1003)
noncomputable def h_b92_13 : ev_H := (bn1004 : e2_Q8)
def bn1005 : e2_Q7 := (bn974, bn618)
def bn1006 : e2_Q8 := (bn477, bn1005)
noncomputable def h_b92_14 : ev_H := (bn1006 : e2_Q8)
def bn1007 : e2_Q7 := (bn974, bn626)
def bn1008 : e2_Q8 := (bn477, bn1007)
noncomputable def h_b92_15 : ev_H := (bn1008 : e2_Q8)
def bn1009 : e2_Q7 := (bn974, bn634)
def bn1010 : e2_Q8 := (bn477, bn1009)
noncomputable def h_b92_16 : ev_H := (bn1010 : e2_Q8)
def bn1011 : e2_Q7 := (bn974, bn642)
def bn1012 : e2_Q8 := (bn477, bn1011)
noncomputable def h_b92_17 : ev_H := (bn1012 : e2_Q8)
def bn1013 : e2_Q7 := (bn974, bn650)
def bn1014 : e2_Q8 := (bn477, bn1013)
noncomputable def h_b92_18 : ev_H := (bn1014 : e2_Q8)
def bn1015 : e2_Q7 := (bn974, bn658)
def bn1016 : e2_Q8 := (bn477, bn1015)
noncomputable def h_b92_19 : ev_H := (bn1016 : e2_Q8)
noncomputable def h_b92_20 : ev_H := (bn976 : e2_Q8)
def bn1017 : e2_Q7 := (bn974, bn666)
def bn1018 : e2_Q8 := (bn477, bn1017)
noncomputable def h_b92_21 : ev_H := (bn1018 : e2_Q8)
noncomputable def h_b92_22 : ev_H := (bn1018 : e2_Q8)
noncomputable def h_b92_23 : ev_H := (bn1018 : e2_Q8)
noncomputable def h_b92_24 : ev_H := (bn1018 : e2_Q8)
noncomputable def h_b92_25 : ev_H := (bn1018 : e2_Q8)
noncomputable def cu_b92_120 : List e2_Cu := [([(2, 83, 0), (11, 0, 4294967295), (0, 0, 0), (0, 8, 0), (9, 0, 0)], [(2147483648, 2147583648, 0, 0), (2147483656, 2147483656, 1, 0), (2147483648, 2147483688, 2, 0), (2147483648, 2147483688, 3, 0)], h_b92_0),
  ([(2, 83, 0), (11, 0, 4294967295), (0, 1, 0), (11, 2147483648, 2147483656), (11, 2147483647, 2147483655)], [(2147483648, 2147583648, 0, 0), (2147483656, 2147483656, 1, 0), (2147483648, 2147483688, 2, 0), (2147483648, 2147483688, 3, 0)], h_b92_1),
  ([(2, 83, 0), (11, 0, 4294967295), (0, 2, 0), (11, 2147483648, 2147483656), (11, 2147483647, 2147483655)], [(2147483648, 2147583648, 0, 0), (2147483656, 2147483656, 1, 0), (2147483648, 2147483688, 2, 0), (2147483648, 2147483688, 3, 0)], h_b92_2),
  ([(2, 83, 0), (11, 0, 4294967295), (0, 3, 0), (11, 2147483648, 2147483656), (11, 2147483647, 2147483655)], [(2147483648, 2147583648, 0, 0), (2147483656, 2147483656, 1, 0), (2147483648, 2147483688, 2, 0), (2147483648, 2147483688, 3, 0)], h_b92_3),
  ([(2, 83, 0), (11, 0, 4294967295), (0, 4, 0), (11, 2147483648, 2147483656), (11, 2147483647, 2147483655)], [(2147483648, 2147583648, 0, 0), (2147483656, 2147483656, 1, 0), (2147483648, 2147483688, 2, 0), (2147483648, 2147483688, 3, 0)], h_b92_4),
  ([(2, 83, 0), (11, 0, 4294967295), (0, 5, 0), (11, 2147483648, 2147483656), (11, 2147483647, 2147483655)], [(2147483648, 2147583648, 0, 0), (2147483656, 2147483656, 1, 0), (2147483648, 2147483688, 2, 0), (2147483648, 2147483688, 3, 0)], h_b92_5),
  ([(2, 83, 0), (11, 0, 4294967295), (0, 6, 0), (11, 2147483648, 2147483656), (11, 2147483647, 2147483655)], [(2147483648, 2147583648, 0, 0), (2147483656, 2147483656, 1, 0), (2147483648, 2147483688, 2, 0), (2147483648, 2147483688, 3, 0)], h_b92_6),
  ([(2, 83, 0), (11, 0, 4294967295), (0, 7, 0), (11, 2147483648, 2147483656), (11, 2147483647, 2147483655)], [(2147483648, 2147583648, 0, 0), (2147483656, 2147483656, 1, 0), (2147483648, 2147483688, 2, 0), (2147483648, 2147483688, 3, 0)], h_b92_7),
  ([(2, 83, 0), (11, 0, 4294967295), (0, 8, 0), (11, 2147483648, 2147483656), (11, 2147483647, 2147483655)], [(2147483648, 2147583648, 0, 0), (2147483656, 2147483656, 1, 0), (2147483648, 2147483688, 2, 0), (2147483648, 2147483688, 3, 0)], h_b92_8),
  ([(2, 83, 0), (11, 0, 4294967295), (0, 9, 0), (11, 2147483648, 2147483656), (11, 2147483647, 2147483655)], [(2147483648, 2147583648, 0, 0), (2147483656, 2147483656, 1, 0), (2147483648, 2147483688, 2, 0), (2147483648, 2147483688, 3, 0)], h_b92_9),
  ([(2, 83, 0), (11, 0, 4294967295), (0, 10, 0), (11, 2147483648, 2147483656), (11, 2147483647, 2147483655)], [(2147483648, 2147583648, 0, 0), (2147483656, 2147483656, 1, 0), (2147483648, 2147483688, 2, 0), (2147483648, 2147483688, 3, 0)], h_b92_10),
  ([(2, 83, 0), (11, 0, 4294967295), (0, 11, 0), (11, 2147483648, 2147483656), (11, 2147483647, 2147483655)], [(2147483648, 2147583648, 0, 0), (2147483656, 2147483656, 1, 0), (2147483648, 2147483688, 2, 0), (2147483648, 2147483688, 3, 0)], h_b92_11),
  ([(2, 83, 0), (11, 0, 4294967295), (0, 12, 0), (11, 2147483648, 2147483656), (11, 2147483647, 2147483655)], [(2147483648, 2147583648, 0, 0), (2147483656, 2147483656, 1, 0), (2147483648, 2147483688, 2, 0), (2147483648, 2147483688, 3, 0)], h_b92_12),
  ([(2, 83, 0), (11, 0, 4294967295), (0, 13, 0), (11, 2147483648, 2147483656), (11, 2147483647, 2147483655)], [(2147483648, 2147583648, 0, 0), (2147483656, 2147483656, 1, 0), (2147483648, 2147483688, 2, 0), (2147483648, 2147483688, 3, 0)], h_b92_13),
  ([(2, 83, 0), (11, 0, 4294967295), (0, 14, 0), (11, 2147483648, 2147483656), (11, 2147483647, 2147483655)], [(2147483648, 2147583648, 0, 0), (2147483656, 2147483656, 1, 0), (2147483648, 2147483688, 2, 0), (2147483648, 2147483688, 3, 0)], h_b92_14),
  ([(2, 83, 0), (11, 0, 4294967295), (0, 15, 0), (11, 2147483648, 2147483656), (11, 2147483647, 2147483655)], [(2147483648, 2147583648, 0, 0), (2147483656, 2147483656, 1, 0), (2147483648, 2147483688, 2, 0), (2147483648, 2147483688, 3, 0)], h_b92_15),
  ([(2, 83, 0), (11, 0, 4294967295), (0, 16, 0), (11, 2147483648, 2147483656), (11, 2147483647, 2147483655)], [(2147483648, 2147583648, 0, 0), (2147483656, 2147483656, 1, 0), (2147483648, 2147483688, 2, 0), (2147483648, 2147483688, 3, 0)], h_b92_16),
  ([(2, 83, 0), (11, 0, 4294967295), (0, 17, 0), (11, 2147483648, 2147483656), (11, 2147483647, 2147483655)], [(2147483648, 2147583648, 0, 0), (2147483656, 2147483656, 1, 0), (2147483648, 2147483688, 2, 0), (2147483648, 2147483688, 3, 0)], h_b92_17),
  ([(2, 83, 0), (11, 0, 4294967295), (0, 18, 0), (11, 2147483648, 2147483656), (11, 2147483647, 2147483655)], [(2147483648, 2147583648, 0, 0), (2147483656, 2147483656, 1, 0), (2147483648, 2147483688, 2, 0), (2147483648, 2147483688, 3, 0)], h_b92_18),
  ([(2, 83, 0), (11, 0, 4294967295), (0, 19, 0), (11, 2147483648, 2147483656), (11, 2147483647, 2147483655)], [(2147483648, 2147583648, 0, 0), (2147483656, 2147483656, 1, 0), (2147483648, 2147483688, 2, 0), (2147483648, 2147483688, 3, 0)], h_b92_19),
  ([(2, 83, 0), (11, 0, 4294967295), (0, 20, 0), (11, 2147483648, 2147483656), (11, 2147483647, 2147483655)], [(2147483648, 2147583648, 0, 0), (2147483656, 2147483656, 1, 0), (2147483648, 2147483688, 2, 0), (2147483648, 2147483688, 3, 0)], h_b92_20),
  ([(2, 83, 0), (11, 0, 4294967295), (0, 21, 0), (11, 2147483648, 2147483655), (11, 2147483648, 2147483655)], [(2147483648, 2147583648, 0, 0), (2147483656, 2147483656, 1, 0), (2147483648, 2147483688, 2, 0), (2147483648, 2147483688, 3, 0)], h_b92_21),
  ([(2, 83, 0), (11, 0, 4294967295), (0, 22, 0), (11, 2147483648, 2147483655), (11, 2147483648, 2147483655)], [(2147483648, 2147583648, 0, 0), (2147483656, 2147483656, 1, 0), (2147483648, 2147483688, 2, 0), (2147483648, 2147483688, 3, 0)], h_b92_22),
  ([(2, 83, 0), (11, 0, 4294967295), (0, 23, 0), (11, 2147483648, 2147483655), (11, 2147483648, 2147483655)], [(2147483648, 2147583648, 0, 0), (2147483656, 2147483656, 1, 0), (2147483648, 2147483688, 2, 0), (2147483648, 2147483688, 3, 0)], h_b92_23),
  ([(2, 83, 0), (11, 0, 4294967295), (0, 24, 0), (11, 2147483648, 2147483655), (11, 2147483648, 2147483655)], [(2147483648, 2147583648, 0, 0), (2147483656, 2147483656, 1, 0), (2147483648, 2147483688, 2, 0), (2147483648, 2147483688, 3, 0)], h_b92_24),
  ([(2, 83, 0), (11, 0, 4294967295), (0, 25, 0), (11, 2147483648, 2147483655), (11, 2147483648, 2147483655)], [(2147483648, 2147583648, 0, 0), (2147483656, 2147483656, 1, 0), (2147483648, 2147483688, 2, 0), (2147483648, 2147483688, 3, 0)], h_b92_25)]
noncomputable def cl_b92_e : List (Nat × e2_S) := [(2, e2_cutL (al_b92_26.set 2 (11, 2147483648, 2147483657)) 4 (E_b92_26.take 4) h_b92_26)]
set_option maxRecDepth 1000000 in
theorem ck_b92_e : e2_run (e2_orG 231 83 11 4 2147483648 2147483668 as_b83 Eb_b83 f_b83 rs_b83 (e2_orG 231 83 11 4 2147483648 2147483668 as_b82 Eb_b82 f_b82 rs_b82 (e2_orG 231 83 11 4 2147483648 2147483668 as_b81 Eb_b81 f_b81 rs_b81 (e2_orG 231 83 11 4 2147483648 2147483668 as_b80 Eb_b80 f_b80 rs_b80 (e2_orG 231 83 11 4 2147483648 2147483668 as_b79 Eb_b79 f_b79 rs_b79 (e2_orG 231 83 11 4 2147483648 2147483668 as_b78 Eb_b78 f_b78 rs_b78 (e2_orG 231 83 11 4 2147483648 2147483668 as_b77 Eb_b77 f_b77 rs_b77 (e2_orG 231 83 11 4 2147483648 2147483668 as_b76 Eb_b76 f_b76 rs_b76 (e2_orG 231 83 11 4 2147483648 2147483668 as_b75 Eb_b75 f_b75 rs_b75 (e2_orG 231 83 11 4 2147483648 2147483668 as_b74 Eb_b74 f_b74 rs_b74 (e2_orG 231 83 11 4 2147483648 2147483668 as_b73 Eb_b73 f_b73 rs_b73 (e2_orG 231 83 11 4 2147483648 2147483668 as_b72 Eb_b72 f_b72 rs_b72 (e2_orG 231 83 11 4 2147483648 2147483668 as_b71 Eb_b71 f_b71 rs_b71 (e2_orG 231 83 11 4 2147483648 2147483668 as_b70 Eb_b70 f_b70 rs_b70 (e2_orG 231 83 11 4 2147483648 2147483668 as_b69 Eb_b69 f_b69 rs_b69 (e2_orG 231 83 11 4 2147483648 2147483668 as_b68 Eb_b68 f_b68 rs_b68 (e2_orG 231 83 11 4 2147483648 2147483668 as_b67 Eb_b67 f_b67 rs_b67 (e2_orG 231 83 11 4 2147483648 2147483668 as_b66 Eb_b66 f_b66 rs_b66 (e2_orG 231 83 11 4 2147483648 2147483668 as_b65 Eb_b65 f_b65 rs_b65 (e2_orG 231 83 11 4 2147483648 2147483668 as_b64 Eb_b64 f_b64 rs_b64 (e2_cal S_b92 I_b92 4000 1))))))))))))))))))))) (e2_fin rs_b92) e2x_230 (e2_bpL cl_b92_e) (e2_cutA cl_b92_e) 4000 (e2_seek e2x_230 0) (e2_al 5 as_b92) [] E_b92 f_b92 = true := by decide +kernel
noncomputable def cl_b92_26 : List (Nat × e2_S) := [(2, e2_cutL (al_b92_26.set 2 (13, 12, 2147483657)) 4 (E_b92_26.take 4) h_b92_26),
  (49, e2_cutL (al_b92_27.set 2 (11, 2147483647, 2147483667)) 4 (E_b92_27.take 4) h_b92_27)]
set_option maxRecDepth 1000000 in
theorem ck_b92_26 : e2_runM (e2_orG 231 83 11 4 2147483648 2147483668 as_b83 Eb_b83 f_b83 rs_b83 (e2_orG 231 83 11 4 2147483648 2147483668 as_b82 Eb_b82 f_b82 rs_b82 (e2_orG 231 83 11 4 2147483648 2147483668 as_b81 Eb_b81 f_b81 rs_b81 (e2_orG 231 83 11 4 2147483648 2147483668 as_b80 Eb_b80 f_b80 rs_b80 (e2_orG 231 83 11 4 2147483648 2147483668 as_b79 Eb_b79 f_b79 rs_b79 (e2_orG 231 83 11 4 2147483648 2147483668 as_b78 Eb_b78 f_b78 rs_b78 (e2_orG 231 83 11 4 2147483648 2147483668 as_b77 Eb_b77 f_b77 rs_b77 (e2_orG 231 83 11 4 2147483648 2147483668 as_b76 Eb_b76 f_b76 rs_b76 (e2_orG 231 83 11 4 2147483648 2147483668 as_b75 Eb_b75 f_b75 rs_b75 (e2_orG 231 83 11 4 2147483648 2147483668 as_b74 Eb_b74 f_b74 rs_b74 (e2_orG 231 83 11 4 2147483648 2147483668 as_b73 Eb_b73 f_b73 rs_b73 (e2_orG 231 83 11 4 2147483648 2147483668 as_b72 Eb_b72 f_b72 rs_b72 (e2_orG 231 83 11 4 2147483648 2147483668 as_b71 Eb_b71 f_b71 rs_b71 (e2_orG 231 83 11 4 2147483648 2147483668 as_b70 Eb_b70 f_b70 rs_b70 (e2_orG 231 83 11 4 2147483648 2147483668 as_b69 Eb_b69 f_b69 rs_b69 (e2_orG 231 83 11 4 2147483648 2147483668 as_b68 Eb_b68 f_b68 rs_b68 (e2_orG 231 83 11 4 2147483648 2147483668 as_b67 Eb_b67 f_b67 rs_b67 (e2_orG 231 83 11 4 2147483648 2147483668 as_b66 Eb_b66 f_b66 rs_b66 (e2_orG 231 83 11 4 2147483648 2147483668 as_b65 Eb_b65 f_b65 rs_b65 (e2_orG 231 83 11 4 2147483648 2147483668 as_b64 Eb_b64 f_b64 rs_b64 (e2_cal S_b92 I_b92 4000 1))))))))))))))))))))) (e2_fin rs_b92) e2x_230 (e2_bpL cl_b92_26) (e2_cutA cl_b92_26) 4000 (e2_seek e2x_230 2) al_b92_26 [] E_b92_26 h_b92_26 = true := by decide +kernel
set_option maxRecDepth 1000000 in
theorem ci_b92_26 : e2_idl 4 (al_b92_26.set 2 (9, 0, 0)) = true := by decide +kernel
set_option maxRecDepth 1000000 in
theorem cj_b92_26 : e2_idh 4 8 h_b92_26 = true := by decide +kernel
noncomputable def cl_b92_27 : List (Nat × e2_S) := [(120, e2_cutS cu_b92_120),
  (55, e2_cutL (al_b92_28.set 3 (11, 2147483648, 2147483657)) 5 (E_b92_28.take 5) h_b92_28)]
set_option maxRecDepth 1000000 in
theorem ck_b92_27 : e2_runM (e2_orG 231 83 11 4 2147483648 2147483668 as_b83 Eb_b83 f_b83 rs_b83 (e2_orG 231 83 11 4 2147483648 2147483668 as_b82 Eb_b82 f_b82 rs_b82 (e2_orG 231 83 11 4 2147483648 2147483668 as_b81 Eb_b81 f_b81 rs_b81 (e2_orG 231 83 11 4 2147483648 2147483668 as_b80 Eb_b80 f_b80 rs_b80 (e2_orG 231 83 11 4 2147483648 2147483668 as_b79 Eb_b79 f_b79 rs_b79 (e2_orG 231 83 11 4 2147483648 2147483668 as_b78 Eb_b78 f_b78 rs_b78 (e2_orG 231 83 11 4 2147483648 2147483668 as_b77 Eb_b77 f_b77 rs_b77 (e2_orG 231 83 11 4 2147483648 2147483668 as_b76 Eb_b76 f_b76 rs_b76 (e2_orG 231 83 11 4 2147483648 2147483668 as_b75 Eb_b75 f_b75 rs_b75 (e2_orG 231 83 11 4 2147483648 2147483668 as_b74 Eb_b74 f_b74 rs_b74 (e2_orG 231 83 11 4 2147483648 2147483668 as_b73 Eb_b73 f_b73 rs_b73 (e2_orG 231 83 11 4 2147483648 2147483668 as_b72 Eb_b72 f_b72 rs_b72 (e2_orG 231 83 11 4 2147483648 2147483668 as_b71 Eb_b71 f_b71 rs_b71 (e2_orG 231 83 11 4 2147483648 2147483668 as_b70 Eb_b70 f_b70 rs_b70 (e2_orG 231 83 11 4 2147483648 2147483668 as_b69 Eb_b69 f_b69 rs_b69 (e2_orG 231 83 11 4 2147483648 2147483668 as_b68 Eb_b68 f_b68 rs_b68 (e2_orG 231 83 11 4 2147483648 2147483668 as_b67 Eb_b67 f_b67 rs_b67 (e2_orG 231 83 11 4 2147483648 2147483668 as_b66 Eb_b66 f_b66 rs_b66 (e2_orG 231 83 11 4 2147483648 2147483668 as_b65 Eb_b65 f_b65 rs_b65 (e2_orG 231 83 11 4 2147483648 2147483668 as_b64 Eb_b64 f_b64 rs_b64 (e2_cal S_b92 I_b92 4000 1))))))))))))))))))))) (e2_fin rs_b92) e2x_230 (e2_bpL cl_b92_27) (e2_cutA cl_b92_27) 4000 (e2_seek e2x_230 49) al_b92_27 [] E_b92_27 h_b92_27 = true := by decide +kernel
set_option maxRecDepth 1000000 in
theorem ci_b92_27 : e2_idl 4 (al_b92_27.set 2 (9, 0, 0)) = true := by decide +kernel
set_option maxRecDepth 1000000 in
theorem cj_b92_27 : e2_idh 4 8 h_b92_27 = true := by decide +kernel
noncomputable def cl_b92_28 : List (Nat × e2_S) := [(49, e2_cutL (al_b92_27.set 2 (12, 12, 2147483647)) 4 (E_b92_27.take 4) h_b92_27),
  (55, e2_cutL (al_b92_28.set 3 (13, 13, 2147483657)) 5 (E_b92_28.take 5) h_b92_28)]
set_option maxRecDepth 1000000 in
theorem ck_b92_28 : e2_runM (e2_orG 231 83 11 4 2147483648 2147483668 as_b83 Eb_b83 f_b83 rs_b83 (e2_orG 231 83 11 4 2147483648 2147483668 as_b82 Eb_b82 f_b82 rs_b82 (e2_orG 231 83 11 4 2147483648 2147483668 as_b81 Eb_b81 f_b81 rs_b81 (e2_orG 231 83 11 4 2147483648 2147483668 as_b80 Eb_b80 f_b80 rs_b80 (e2_orG 231 83 11 4 2147483648 2147483668 as_b79 Eb_b79 f_b79 rs_b79 (e2_orG 231 83 11 4 2147483648 2147483668 as_b78 Eb_b78 f_b78 rs_b78 (e2_orG 231 83 11 4 2147483648 2147483668 as_b77 Eb_b77 f_b77 rs_b77 (e2_orG 231 83 11 4 2147483648 2147483668 as_b76 Eb_b76 f_b76 rs_b76 (e2_orG 231 83 11 4 2147483648 2147483668 as_b75 Eb_b75 f_b75 rs_b75 (e2_orG 231 83 11 4 2147483648 2147483668 as_b74 Eb_b74 f_b74 rs_b74 (e2_orG 231 83 11 4 2147483648 2147483668 as_b73 Eb_b73 f_b73 rs_b73 (e2_orG 231 83 11 4 2147483648 2147483668 as_b72 Eb_b72 f_b72 rs_b72 (e2_orG 231 83 11 4 2147483648 2147483668 as_b71 Eb_b71 f_b71 rs_b71 (e2_orG 231 83 11 4 2147483648 2147483668 as_b70 Eb_b70 f_b70 rs_b70 (e2_orG 231 83 11 4 2147483648 2147483668 as_b69 Eb_b69 f_b69 rs_b69 (e2_orG 231 83 11 4 2147483648 2147483668 as_b68 Eb_b68 f_b68 rs_b68 (e2_orG 231 83 11 4 2147483648 2147483668 as_b67 Eb_b67 f_b67 rs_b67 (e2_orG 231 83 11 4 2147483648 2147483668 as_b66 Eb_b66 f_b66 rs_b66 (e2_orG 231 83 11 4 2147483648 2147483668 as_b65 Eb_b65 f_b65 rs_b65 (e2_orG 231 83 11 4 2147483648 2147483668 as_b64 Eb_b64 f_b64 rs_b64 (e2_cal S_b92 I_b92 4000 1))))))))))))))))))))) (e2_fin rs_b92) e2x_230 (e2_bpL cl_b92_28) (e2_cutA cl_b92_28) 4000 (e2_seek e2x_230 55) al_b92_28 [] E_b92_28 h_b92_28 = true := by decide +kernel
set_option maxRecDepth 1000000 in
theorem ci_b92_28 : e2_idl 5 (al_b92_28.set 3 (9, 0, 0)) = true := by decide +kernel
set_option maxRecDepth 1000000 in
theorem cj_b92_28 : e2_idh 5 8 h_b92_28 = true := by decide +kernel
set_option maxRecDepth 1000000 in
theorem ck_b92_u120 : e2_cutsB (e2_orG 231 83 11 4 2147483648 2147483668 as_b83 Eb_b83 f_b83 rs_b83 (e2_orG 231 83 11 4 2147483648 2147483668 as_b82 Eb_b82 f_b82 rs_b82 (e2_orG 231 83 11 4 2147483648 2147483668 as_b81 Eb_b81 f_b81 rs_b81 (e2_orG 231 83 11 4 2147483648 2147483668 as_b80 Eb_b80 f_b80 rs_b80 (e2_orG 231 83 11 4 2147483648 2147483668 as_b79 Eb_b79 f_b79 rs_b79 (e2_orG 231 83 11 4 2147483648 2147483668 as_b78 Eb_b78 f_b78 rs_b78 (e2_orG 231 83 11 4 2147483648 2147483668 as_b77 Eb_b77 f_b77 rs_b77 (e2_orG 231 83 11 4 2147483648 2147483668 as_b76 Eb_b76 f_b76 rs_b76 (e2_orG 231 83 11 4 2147483648 2147483668 as_b75 Eb_b75 f_b75 rs_b75 (e2_orG 231 83 11 4 2147483648 2147483668 as_b74 Eb_b74 f_b74 rs_b74 (e2_orG 231 83 11 4 2147483648 2147483668 as_b73 Eb_b73 f_b73 rs_b73 (e2_orG 231 83 11 4 2147483648 2147483668 as_b72 Eb_b72 f_b72 rs_b72 (e2_orG 231 83 11 4 2147483648 2147483668 as_b71 Eb_b71 f_b71 rs_b71 (e2_orG 231 83 11 4 2147483648 2147483668 as_b70 Eb_b70 f_b70 rs_b70 (e2_orG 231 83 11 4 2147483648 2147483668 as_b69 Eb_b69 f_b69 rs_b69 (e2_orG 231 83 11 4 2147483648 2147483668 as_b68 Eb_b68 f_b68 rs_b68 (e2_orG 231 83 11 4 2147483648 2147483668 as_b67 Eb_b67 f_b67 rs_b67 (e2_orG 231 83 11 4 2147483648 2147483668 as_b66 Eb_b66 f_b66 rs_b66 (e2_orG 231 83 11 4 2147483648 2147483668 as_b65 Eb_b65 f_b65 rs_b65 (e2_orG 231 83 11 4 2147483648 2147483668 as_b64 Eb_b64 f_b64 rs_b64 (e2_cal S_b92 I_b92 4000 1))))))))))))))))))))) (e2_fin rs_b92) e2x_230 120 4000 cu_b92_120 = true := by decide +kernel
set_option maxRecDepth 1000000 in
theorem cs_b92 (hen : en_ok) (l : Launch) : e2_smOk l 5 s_b92 := by
  refine e2_conC (H := 4) (C := evd_230) (call := (e2_orG 231 83 11 4 2147483648 2147483668 as_b83 Eb_b83 f_b83 rs_b83 (e2_orG 231 83 11 4 2147483648 2147483668 as_b82 Eb_b82 f_b82 rs_b82 (e2_orG 231 83 11 4 2147483648 2147483668 as_b81 Eb_b81 f_b81 rs_b81 (e2_orG 231 83 11 4 2147483648 2147483668 as_b80 Eb_b80 f_b80 rs_b80 (e2_orG 231 83 11 4 2147483648 2147483668 as_b79 Eb_b79 f_b79 rs_b79 (e2_orG 231 83 11 4 2147483648 2147483668 as_b78 Eb_b78 f_b78 rs_b78 (e2_orG 231 83 11 4 2147483648 2147483668 as_b77 Eb_b77 f_b77 rs_b77 (e2_orG 231 83 11 4 2147483648 2147483668 as_b76 Eb_b76 f_b76 rs_b76 (e2_orG 231 83 11 4 2147483648 2147483668 as_b75 Eb_b75 f_b75 rs_b75 (e2_orG 231 83 11 4 2147483648 2147483668 as_b74 Eb_b74 f_b74 rs_b74 (e2_orG 231 83 11 4 2147483648 2147483668 as_b73 Eb_b73 f_b73 rs_b73 (e2_orG 231 83 11 4 2147483648 2147483668 as_b72 Eb_b72 f_b72 rs_b72 (e2_orG 231 83 11 4 2147483648 2147483668 as_b71 Eb_b71 f_b71 rs_b71 (e2_orG 231 83 11 4 2147483648 2147483668 as_b70 Eb_b70 f_b70 rs_b70 (e2_orG 231 83 11 4 2147483648 2147483668 as_b69 Eb_b69 f_b69 rs_b69 (e2_orG 231 83 11 4 2147483648 2147483668 as_b68 Eb_b68 f_b68 rs_b68 (e2_orG 231 83 11 4 2147483648 2147483668 as_b67 Eb_b67 f_b67 rs_b67 (e2_orG 231 83 11 4 2147483648 2147483668 as_b66 Eb_b66 f_b66 rs_b66 (e2_orG 231 83 11 4 2147483648 2147483668 as_b65 Eb_b65 f_b65 rs_b65 (e2_orG 231 83 11 4 2147483648 2147483668 as_b64 Eb_b64 f_b64 rs_b64 (e2_cal S_b92 I_b92 4000 1)))))))))))))))))))))) ei_230 (fun d hd => (e2_orG_ok (k0 := 231) (a := 83) (j := 11) (n := 4) (lo := 2147483648) (hi := 2147483668) (as0 := as_b83) (Eb := Eb_b83) (f := f_b83) (res := rs_b83) (e2_orG_ok (k0 := 231) (a := 83) (j := 11) (n := 4) (lo := 2147483648) (hi := 2147483668) (as0 := as_b82) (Eb := Eb_b82) (f := f_b82) (res := rs_b82) (e2_orG_ok (k0 := 231) (a := 83) (j := 11) (n := 4) (lo := 2147483648) (hi := 2147483668) (as0 := as_b81) (Eb := Eb_b81) (f := f_b81) (res := rs_b81) (e2_orG_ok (k0 := 231) (a := 83) (j := 11) (n := 4) (lo := 2147483648) (hi := 2147483668) (as0 := as_b80) (Eb := Eb_b80) (f := f_b80) (res := rs_b80) (e2_orG_ok (k0 := 231) (a := 83) (j := 11) (n := 4) (lo := 2147483648) (hi := 2147483668) (as0 := as_b79) (Eb := Eb_b79) (f := f_b79) (res := rs_b79) (e2_orG_ok (k0 := 231) (a := 83) (j := 11) (n := 4) (lo := 2147483648) (hi := 2147483668) (as0 := as_b78) (Eb := Eb_b78) (f := f_b78) (res := rs_b78) (e2_orG_ok (k0 := 231) (a := 83) (j := 11) (n := 4) (lo := 2147483648) (hi := 2147483668) (as0 := as_b77) (Eb := Eb_b77) (f := f_b77) (res := rs_b77) (e2_orG_ok (k0 := 231) (a := 83) (j := 11) (n := 4) (lo := 2147483648) (hi := 2147483668) (as0 := as_b76) (Eb := Eb_b76) (f := f_b76) (res := rs_b76) (e2_orG_ok (k0 := 231) (a := 83) (j := 11) (n := 4) (lo := 2147483648) (hi := 2147483668) (as0 := as_b75) (Eb := Eb_b75) (f := f_b75) (res := rs_b75) (e2_orG_ok (k0 := 231) (a := 83) (j := 11) (n := 4) (lo := 2147483648) (hi := 2147483668) (as0 := as_b74) (Eb := Eb_b74) (f := f_b74) (res := rs_b74) (e2_orG_ok (k0 := 231) (a := 83) (j := 11) (n := 4) (lo := 2147483648) (hi := 2147483668) (as0 := as_b73) (Eb := Eb_b73) (f := f_b73) (res := rs_b73) (e2_orG_ok (k0 := 231) (a := 83) (j := 11) (n := 4) (lo := 2147483648) (hi := 2147483668) (as0 := as_b72) (Eb := Eb_b72) (f := f_b72) (res := rs_b72) (e2_orG_ok (k0 := 231) (a := 83) (j := 11) (n := 4) (lo := 2147483648) (hi := 2147483668) (as0 := as_b71) (Eb := Eb_b71) (f := f_b71) (res := rs_b71) (e2_orG_ok (k0 := 231) (a := 83) (j := 11) (n := 4) (lo := 2147483648) (hi := 2147483668) (as0 := as_b70) (Eb := Eb_b70) (f := f_b70) (res := rs_b70) (e2_orG_ok (k0 := 231) (a := 83) (j := 11) (n := 4) (lo := 2147483648) (hi := 2147483668) (as0 := as_b69) (Eb := Eb_b69) (f := f_b69) (res := rs_b69) (e2_orG_ok (k0 := 231) (a := 83) (j := 11) (n := 4) (lo := 2147483648) (hi := 2147483668) (as0 := as_b68) (Eb := Eb_b68) (f := f_b68) (res := rs_b68) (e2_orG_ok (k0 := 231) (a := 83) (j := 11) (n := 4) (lo := 2147483648) (hi := 2147483668) (as0 := as_b67) (Eb := Eb_b67) (f := f_b67) (res := rs_b67) (e2_orG_ok (k0 := 231) (a := 83) (j := 11) (n := 4) (lo := 2147483648) (hi := 2147483668) (as0 := as_b66) (Eb := Eb_b66) (f := f_b66) (res := rs_b66) (e2_orG_ok (k0 := 231) (a := 83) (j := 11) (n := 4) (lo := 2147483648) (hi := 2147483668) (as0 := as_b65) (Eb := Eb_b65) (f := f_b65) (res := rs_b65) (e2_orG_ok (k0 := 231) (a := 83) (j := 11) (n := 4) (lo := 2147483648) (hi := 2147483668) (as0 := as_b64) (Eb := Eb_b64) (f := f_b64) (res := rs_b64) (e2_cal_ok hen (e2_fa (cs_b24 hen l) (e2_fa (cs_b25 hen l) (e2_fa (cs_b26 hen l) (e2_fa (cs_b27 hen l) (e2_fa (cs_b28 hen l) (e2_fa (cs_b29 hen l) (e2_fa (cs_b30 hen l) (e2_fa (cs_b31 hen l) (e2_fa (cs_b32 hen l) (e2_fa (cs_b33 hen l) (e2_fa (cs_b34 hen l) (e2_fa (cs_b35 hen l) (e2_fa (cs_b36 hen l) (e2_fa (cs_b37 hen l) (e2_fa (cs_b38 hen l) (e2_fa (cs_b39 hen l) (e2_fa (cs_b40 hen l) (e2_fa (cs_b41 hen l) (e2_fa (cs_b42 hen l) (e2_fa (cs_b43 hen l) e2_fz)))))))))))))))))))) (e2_fa ein_216 (e2_fa ein_217 (e2_fa ein_227 e2_fz))) 1 d (by omega)) rfl (by decide +kernel) (fun M hM => (cs_b64 hen l).2 M hM d (by omega)) (e2_okGB_ok cog_b64)) rfl (by decide +kernel) (fun M hM => (cs_b65 hen l).2 M hM d (by omega)) (e2_okGB_ok cog_b65)) rfl (by decide +kernel) (fun M hM => (cs_b66 hen l).2 M hM d (by omega)) (e2_okGB_ok cog_b66)) rfl (by decide +kernel) (fun M hM => (cs_b67 hen l).2 M hM d (by omega)) (e2_okGB_ok cog_b67)) rfl (by decide +kernel) (fun M hM => (cs_b68 hen l).2 M hM d (by omega)) (e2_okGB_ok cog_b68)) rfl (by decide +kernel) (fun M hM => (cs_b69 hen l).2 M hM d (by omega)) (e2_okGB_ok cog_b69)) rfl (by decide +kernel) (fun M hM => (cs_b70 hen l).2 M hM d (by omega)) (e2_okGB_ok cog_b70)) rfl (by decide +kernel) (fun M hM => (cs_b71 hen l).2 M hM d (by omega)) (e2_okGB_ok cog_b71)) rfl (by decide +kernel) (fun M hM => (cs_b72 hen l).2 M hM d (by omega)) (e2_okGB_ok cog_b72)) rfl (by decide +kernel) (fun M hM => (cs_b73 hen l).2 M hM d (by omega)) (e2_okGB_ok cog_b73)) rfl (by decide +kernel) (fun M hM => (cs_b74 hen l).2 M hM d (by omega)) (e2_okGB_ok cog_b74)) rfl (by decide +kernel) (fun M hM => (cs_b75 hen l).2 M hM d (by omega)) (e2_okGB_ok cog_b75)) rfl (by decide +kernel) (fun M hM => (cs_b76 hen l).2 M hM d (by omega)) (e2_okGB_ok cog_b76)) rfl (by decide +kernel) (fun M hM => (cs_b77 hen l).2 M hM d (by omega)) (e2_okGB_ok cog_b77)) rfl (by decide +kernel) (fun M hM => (cs_b78 hen l).2 M hM d (by omega)) (e2_okGB_ok cog_b78)) rfl (by decide +kernel) (fun M hM => (cs_b79 hen l).2 M hM d (by omega)) (e2_okGB_ok cog_b79)) rfl (by decide +kernel) (fun M hM => (cs_b80 hen l).2 M hM d (by omega)) (e2_okGB_ok cog_b80)) rfl (by decide +kernel) (fun M hM => (cs_b81 hen l).2 M hM d (by omega)) (e2_okGB_ok cog_b81)) rfl (by decide +kernel) (fun M hM => (cs_b82 hen l).2 M hM d (by omega)) (e2_okGB_ok cog_b82)) rfl (by decide +kernel) (fun M hM => (cs_b83 hen l).2 M hM d (by omega)) (e2_okGB_ok cog_b83))) (by decide) co_b92 fun M d _ hC hcall p e R s m args below meth c Q D cA A ads r0 ha hl0 => ?_
  have EN_120 := e2_cutS_ok (bp := 120) (cuts := cu_b92_120) (e2_cuts_len hl0 (by decide +kernel)) (e2_cuts_ok hen ha hcall (hC [76, 192, 195]) (X := e2x_230) ex2_230 (e2_cuts_len hl0 (by decide +kernel)) ck_b92_u120)
  have L_27 : e2_gdM M p l e R s m args below meth c Q D cA A ads r0 49 al_b92_27 [] E_b92_27 h_b92_27 := by
    refine e2_indD (u := 4) (j := 2) (lo := 2147483647) (hi := 2147483667) hl0 (by decide) rfl rfl rfl ci_b92_27 cj_b92_27 ?_
    intro r_27 k_27 hk_27 hp_27 hs_27 hn_27
    have hl_27 : r_27.length ≤ 5 := hs_27.len rfl
    have ha_27 := ha.ext hp_27
    have L_28 : e2_gdM M p l e R s m args below meth c Q D cA A ads r_27 55 al_b92_28 [] E_b92_28 h_b92_28 := by
      refine e2_indL (u := 5) (j := 3) (lo := 2147483648) (hi := 2147483657) (b := 5) (dd := 0) hl_27 (by decide) rfl rfl (Or.inr ⟨rfl, rfl⟩) rfl ci_b92_28 cj_b92_28 ?_
      intro r_28 k_28 hk_28 hp_28 hs_28 hn_28
      have hl_28 : r_28.length ≤ 6 := hs_28.len rfl
      have ha_28 := ha_27.ext hp_28
      exact e2_fromM hen ha_28 hcall (e2_cutA_ok (e2_fa (fun al st E h hc => (hn_27 al st E h hc).ext hp_28) (e2_fa (fun al st E h hc => hn_28 al st E h hc) e2_fz))) (hC [76, 192, 195]) (X := e2x_230) ex2_230 55 ck_b92_28
    have EN_28 := e2_entL (u := 5) (j := 3) (lo := 2147483648) (hi := 2147483657) hl_27 rfl rfl rfl ci_b92_28 cj_b92_28 L_28
    exact e2_fromM hen ha_27 hcall (e2_cutA_ok (e2_fa (fun al st E h hc => (EN_120 al st E h hc).ext hp_27) (e2_fa (fun al st E h hc => EN_28 al st E h hc) e2_fz))) (hC [76, 192, 195]) (X := e2x_230) ex2_230 49 ck_b92_27
  have EN_27 := e2_entL (u := 4) (j := 2) (lo := 2147483647) (hi := 2147483667) hl0 rfl rfl rfl ci_b92_27 cj_b92_27 L_27
  have L_26 : e2_gdM M p l e R s m args below meth c Q D cA A ads r0 2 al_b92_26 [] E_b92_26 h_b92_26 := by
    refine e2_indL (u := 4) (j := 2) (lo := 2147483648) (hi := 2147483657) (b := 4) (dd := 0) hl0 (by decide) rfl rfl (Or.inr ⟨rfl, rfl⟩) rfl ci_b92_26 cj_b92_26 ?_
    intro r_26 k_26 hk_26 hp_26 hs_26 hn_26
    have hl_26 : r_26.length ≤ 5 := hs_26.len rfl
    have ha_26 := ha.ext hp_26
    exact e2_fromM hen ha_26 hcall (e2_cutA_ok (e2_fa (fun al st E h hc => hn_26 al st E h hc) (e2_fa (fun al st E h hc => (EN_27 al st E h hc).ext hp_26) e2_fz))) (hC [76, 192, 195]) (X := e2x_230) ex2_230 2 ck_b92_26
  have EN_26 := e2_entL (u := 4) (j := 2) (lo := 2147483648) (hi := 2147483657) hl0 rfl rfl rfl ci_b92_26 cj_b92_26 L_26
  exact e2_from hen ha hcall (e2_cutA_ok (e2_fa (fun al st E h hc => EN_26 al st E h hc) e2_fz)) (hC [76, 192, 195]) (X := e2x_230) ex2_230 0 ck_b92_e
/-! b93 X10_read, by the values of the second variable -/
def as_b93 : List ev_V := [(2, 83, 0), (11, 0, 4294967295)]
def E_b93 : e2_E := [(2147483648, 2147583648, 0, 0), (2147483648, 2147483656, 1, 0), (2147483648, 2147483688, 2, 0), (2147483648, 2147483688, 3, 0)]
def bn1019 : e2_Q6 := (bn388, bn487)
def bn1020 : e2_Q7 := (bn1019, bn451)
def bn1021 : e2_Q8 := (bn477, bn1020)
noncomputable def f_b93 : ev_H := (bn1021 : e2_Q8)
noncomputable def q_b93_0 : ev_H := (bn1021 : e2_Q8)
noncomputable def rs_b93 : e2_Rs := [((11, 2147483647, 2147483668), q_b93_0)]
noncomputable def s_b93 : e2_Sm := (230, as_b93, E_b93, f_b93, rs_b93)
set_option maxRecDepth 1000000 in
theorem co_b93 : e2_okSB E_b93.length as_b93 f_b93 rs_b93 = true := by decide +kernel
set_option maxRecDepth 1000000 in
theorem cp_b93_0 : e2_if (e2_lle (e2_vl9 (E_b93.set 1 (2147483648, 2147483648, 1, 0))) s_b84.2.1 as_b93) (e2_if (e2_pre s_b84.2.2.1.length s_b84.2.2.1 0 (E_b93.set 1 (2147483648, 2147483648, 1, 0))) (e2_if (e2_hlf (E_b93.set 1 (2147483648, 2147483648, 1, 0)) 8 s_b84.2.2.2.1 f_b93) (e2_allR s_b84.2.2.2.2 fun q => e2_fin rs_b93 q.1 (E_b93.set 1 (2147483648, 2147483648, 1, 0)) (e2_mrg 8 s_b84.2.2.2.1 q.2 f_b93)))) = true := by decide +kernel
set_option maxRecDepth 1000000 in
theorem cp_b93_1 : e2_if (e2_lle (e2_vl9 (E_b93.set 1 (2147483649, 2147483649, 1, 0))) s_b85.2.1 as_b93) (e2_if (e2_pre s_b85.2.2.1.length s_b85.2.2.1 0 (E_b93.set 1 (2147483649, 2147483649, 1, 0))) (e2_if (e2_hlf (E_b93.set 1 (2147483649, 2147483649, 1, 0)) 8 s_b85.2.2.2.1 f_b93) (e2_allR s_b85.2.2.2.2 fun q => e2_fin rs_b93 q.1 (E_b93.set 1 (2147483649, 2147483649, 1, 0)) (e2_mrg 8 s_b85.2.2.2.1 q.2 f_b93)))) = true := by decide +kernel
set_option maxRecDepth 1000000 in
theorem cp_b93_2 : e2_if (e2_lle (e2_vl9 (E_b93.set 1 (2147483650, 2147483650, 1, 0))) s_b86.2.1 as_b93) (e2_if (e2_pre s_b86.2.2.1.length s_b86.2.2.1 0 (E_b93.set 1 (2147483650, 2147483650, 1, 0))) (e2_if (e2_hlf (E_b93.set 1 (2147483650, 2147483650, 1, 0)) 8 s_b86.2.2.2.1 f_b93) (e2_allR s_b86.2.2.2.2 fun q => e2_fin rs_b93 q.1 (E_b93.set 1 (2147483650, 2147483650, 1, 0)) (e2_mrg 8 s_b86.2.2.2.1 q.2 f_b93)))) = true := by decide +kernel
set_option maxRecDepth 1000000 in
theorem cp_b93_3 : e2_if (e2_lle (e2_vl9 (E_b93.set 1 (2147483651, 2147483651, 1, 0))) s_b87.2.1 as_b93) (e2_if (e2_pre s_b87.2.2.1.length s_b87.2.2.1 0 (E_b93.set 1 (2147483651, 2147483651, 1, 0))) (e2_if (e2_hlf (E_b93.set 1 (2147483651, 2147483651, 1, 0)) 8 s_b87.2.2.2.1 f_b93) (e2_allR s_b87.2.2.2.2 fun q => e2_fin rs_b93 q.1 (E_b93.set 1 (2147483651, 2147483651, 1, 0)) (e2_mrg 8 s_b87.2.2.2.1 q.2 f_b93)))) = true := by decide +kernel
set_option maxRecDepth 1000000 in
theorem cp_b93_4 : e2_if (e2_lle (e2_vl9 (E_b93.set 1 (2147483652, 2147483652, 1, 0))) s_b88.2.1 as_b93) (e2_if (e2_pre s_b88.2.2.1.length s_b88.2.2.1 0 (E_b93.set 1 (2147483652, 2147483652, 1, 0))) (e2_if (e2_hlf (E_b93.set 1 (2147483652, 2147483652, 1, 0)) 8 s_b88.2.2.2.1 f_b93) (e2_allR s_b88.2.2.2.2 fun q => e2_fin rs_b93 q.1 (E_b93.set 1 (2147483652, 2147483652, 1, 0)) (e2_mrg 8 s_b88.2.2.2.1 q.2 f_b93)))) = true := by decide +kernel
set_option maxRecDepth 1000000 in
theorem cp_b93_5 : e2_if (e2_lle (e2_vl9 (E_b93.set 1 (2147483653, 2147483653, 1, 0))) s_b89.2.1 as_b93) (e2_if (e2_pre s_b89.2.2.1.length s_b89.2.2.1 0 (E_b93.set 1 (2147483653, 2147483653, 1, 0))) (e2_if (e2_hlf (E_b93.set 1 (2147483653, 2147483653, 1, 0)) 8 s_b89.2.2.2.1 f_b93) (e2_allR s_b89.2.2.2.2 fun q => e2_fin rs_b93 q.1 (E_b93.set 1 (2147483653, 2147483653, 1, 0)) (e2_mrg 8 s_b89.2.2.2.1 q.2 f_b93)))) = true := by decide +kernel
set_option maxRecDepth 1000000 in
theorem cp_b93_6 : e2_if (e2_lle (e2_vl9 (E_b93.set 1 (2147483654, 2147483654, 1, 0))) s_b90.2.1 as_b93) (e2_if (e2_pre s_b90.2.2.1.length s_b90.2.2.1 0 (E_b93.set 1 (2147483654, 2147483654, 1, 0))) (e2_if (e2_hlf (E_b93.set 1 (2147483654, 2147483654, 1, 0)) 8 s_b90.2.2.2.1 f_b93) (e2_allR s_b90.2.2.2.2 fun q => e2_fin rs_b93 q.1 (E_b93.set 1 (2147483654, 2147483654, 1, 0)) (e2_mrg 8 s_b90.2.2.2.1 q.2 f_b93)))) = true := by decide +kernel
set_option maxRecDepth 1000000 in
theorem cp_b93_7 : e2_if (e2_lle (e2_vl9 (E_b93.set 1 (2147483655, 2147483655, 1, 0))) s_b91.2.1 as_b93) (e2_if (e2_pre s_b91.2.2.1.length s_b91.2.2.1 0 (E_b93.set 1 (2147483655, 2147483655, 1, 0))) (e2_if (e2_hlf (E_b93.set 1 (2147483655, 2147483655, 1, 0)) 8 s_b91.2.2.2.1 f_b93) (e2_allR s_b91.2.2.2.2 fun q => e2_fin rs_b93 q.1 (E_b93.set 1 (2147483655, 2147483655, 1, 0)) (e2_mrg 8 s_b91.2.2.2.1 q.2 f_b93)))) = true := by decide +kernel
set_option maxRecDepth 1000000 in
theorem cp_b93_8 : e2_if (e2_lle (e2_vl9 (E_b93.set 1 (2147483656, 2147483656, 1, 0))) s_b92.2.1 as_b93) (e2_if (e2_pre s_b92.2.2.1.length s_b92.2.2.1 0 (E_b93.set 1 (2147483656, 2147483656, 1, 0))) (e2_if (e2_hlf (E_b93.set 1 (2147483656, 2147483656, 1, 0)) 8 s_b92.2.2.2.1 f_b93) (e2_allR s_b92.2.2.2.2 fun q => e2_fin rs_b93 q.1 (E_b93.set 1 (2147483656, 2147483656, 1, 0)) (e2_mrg 8 s_b92.2.2.2.1 q.2 f_b93)))) = true := by decide +kernel
theorem cs_b93 (hen : en_ok) (l : Launch) : e2_smOk l 5 s_b93 := by
  refine ⟨e2_okSB_ok co_b93, fun M hM d hd => e2_Met.split1 (E := E_b93) (lo := 2147483648) (hi := 2147483656) rfl fun s h1 h2 => ?_⟩
  have hs : s = 2147483648 ∨ s = 2147483649 ∨ s = 2147483650 ∨ s = 2147483651 ∨ s = 2147483652 ∨ s = 2147483653 ∨ s = 2147483654 ∨ s = 2147483655 ∨ s = 2147483656 := by omega
  rcases hs with rfl | rfl | rfl | rfl | rfl | rfl | rfl | rfl | rfl
  · exact e2_part1 (s := s_b84) (cs_b84 hen l) hM (Nat.le_trans (by decide) hd) cp_b93_0
  · exact e2_part1 (s := s_b85) (cs_b85 hen l) hM (Nat.le_trans (by decide) hd) cp_b93_1
  · exact e2_part1 (s := s_b86) (cs_b86 hen l) hM (Nat.le_trans (by decide) hd) cp_b93_2
  · exact e2_part1 (s := s_b87) (cs_b87 hen l) hM (Nat.le_trans (by decide) hd) cp_b93_3
  · exact e2_part1 (s := s_b88) (cs_b88 hen l) hM (Nat.le_trans (by decide) hd) cp_b93_4
  · exact e2_part1 (s := s_b89) (cs_b89 hen l) hM (Nat.le_trans (by decide) hd) cp_b93_5
  · exact e2_part1 (s := s_b90) (cs_b90 hen l) hM (Nat.le_trans (by decide) hd) cp_b93_6
  · exact e2_part1 (s := s_b91) (cs_b91 hen l) hM (Nat.le_trans (by decide) hd) cp_b93_7
  · exact e2_part1 (s := s_b92) (cs_b92 hen l) hM (Nat.le_trans (by decide) hd) cp_b93_8
