/-! CONTRACTS b, printed by a program -/
/-! b94 X10_nextAt -/
def as_b94 : List ev_V := [(2, 83, 0), (0, 0, 0), (0, 8, 0), (11, 0, 4294967295)]
def E_b94 : e2_E := [(2147483648, 2147583648, 0, 0), (2147483648, 2147483656, 1, 0), (2147483648, 2147483688, 2, 0), (2147483648, 2147483688, 3, 0), (2147483648, 2147483668, 4, 0)]
def bc190 : ev_C := (10, [(0, 0, 0), (2, 88, 0), (2, 115, 0), (2, 114, 0), (2, 86, 0), (2, 112, 0), (11, 2147483648, 2147483688), (2, 118, 0), (2, 120, 0), (2, 131, 0), (2, 91, 0), (1, 4, 4294967296), (2, 123, 0), (11, 2147483648, 2147483649), (11, 2147483648, 2147485248), (2, 87, 0), (2, 84, 0), (2, 122, 0), (2, 100, 0), (2, 132, 0), (11, 2147483648, 2147483668), (11, 2147483648, 2147485248), (1, 0, 4294967296), (11, 0, 4294967295), (11, 2147483648, 2147485248), (2, 93, 0), (2, 104, 0), (11, 2147483648, 2147483678), (2, 89, 0), (2, 92, 0), (2, 119, 0), (2, 90, 0), (2, 94, 0), (2, 103, 0), (0, 0, 0), (11, 0, 4294967295), (11, 0, 4294967295), (11, 2147483648, 2147485249), (11, 2147483648, 2147483653), (11, 2147483648, 2147483668), (2, 85, 0), (11, 2147483648, 2147493647), (5, 0, 0), (2, 95, 0), (2, 96, 0), (2, 97, 0), (2, 98, 0), (2, 99, 0), (2, 101, 0), (2, 102, 0), (2, 105, 0), (2, 106, 0), (2, 107, 0), (2, 108, 0), (2, 109, 0), (2, 110, 0), (2, 111, 0), (11, 2147483648, 2147484768), (11, 2147482048, 2147483655), (11, 2147483648, 2147483738), (11, 2147483648, 2147483678), (11, 0, 4294967295), (11, 0, 4294967295), (11, 0, 4294967295), (11, 0, 4294967295), (11, 0, 4294967295), (2, 113, 0), (2, 116, 0), (2, 117, 0), (2, 121, 0), (11, 0, 4294967295), (11, 0, 4294967295), (2, 124, 0), (2, 125, 0), (11, 0, 4294967295), (2, 126, 0), (2, 127, 0), (2, 128, 0), (2, 129, 0), (2, 130, 0)])
def bn1022 : e2_Q1 := (bc190, bc3)
def bn1023 : e2_Q2 := (bn197, bn1022)
def bn1024 : e2_Q3 := (bn1023, bn447)
def bn1025 : e2_Q4 := (bn196, bn1024)
def bn1026 : e2_Q5 := (bn1025, bn219)
def bn1027 : e2_Q6 := (bn1026, bn251)
def bn1028 : e2_Q7 := (bn389, bn1027)
def bn1029 : e2_Q8 := (bn461, bn1028)
noncomputable def f_b94 : ev_H := (bn1029 : e2_Q8)
noncomputable def q_b94_0 : ev_H := (bn1029 : e2_Q8)
noncomputable def rs_b94 : e2_Rs := [((12, 9, 2147483647), q_b94_0)]
noncomputable def s_b94 : e2_Sm := (231, as_b94, E_b94, f_b94, rs_b94)
noncomputable def S_b94 : List e2_Sm := []
noncomputable def I_b94 : List e2_In := [(216, 1, e2x_216), (217, 1, e2x_217), (225, 5, e2x_225), (226, 3, e2x_226), (227, 2, e2x_227)]
set_option maxRecDepth 1000000 in
theorem co_b94 : e2_okSB E_b94.length as_b94 f_b94 rs_b94 = true := by decide +kernel
def al_b94_0 : List ev_V := [(2, 83, 0), (0, 0, 0), (0, 8, 0), (11, 0, 4294967295), (1, 5, 4294967296), (9, 0, 0)]
def E_b94_0 : e2_E := [(2147483648, 2147583648, 0, 0), (2147483648, 2147483656, 1, 0), (2147483648, 2147483688, 2, 0), (2147483648, 2147483688, 3, 0), (2147483648, 2147483668, 4, 0), (2147483648, 2147483656, 5, 0)]
noncomputable def h_b94_0 : ev_H := (bn1029 : e2_Q8)
noncomputable def cl_b94_e : List (Nat × e2_S) := [(3, e2_cutL (al_b94_0.set 4 (11, 2147483648, 2147483656)) 5 (E_b94_0.take 5) h_b94_0)]
set_option maxRecDepth 1000000 in
theorem ck_b94_e : e2_run (e2_cal S_b94 I_b94 4000 2) (e2_fin rs_b94) e2x_231 (e2_bpL cl_b94_e) (e2_cutA cl_b94_e) 4000 (e2_seek e2x_231 0) (e2_al 6 as_b94) [] E_b94 f_b94 = true := by decide +kernel
noncomputable def cl_b94_0 : List (Nat × e2_S) := [(3, e2_cutL (al_b94_0.set 4 (13, 13, 2147483656)) 5 (E_b94_0.take 5) h_b94_0)]
set_option maxRecDepth 1000000 in
theorem ck_b94_0 : e2_runM (e2_cal S_b94 I_b94 4000 2) (e2_fin rs_b94) e2x_231 (e2_bpL cl_b94_0) (e2_cutA cl_b94_0) 4000 (e2_seek e2x_231 3) al_b94_0 [] E_b94_0 h_b94_0 = true := by decide +kernel
set_option maxRecDepth 1000000 in
theorem ci_b94_0 : e2_idl 5 (al_b94_0.set 4 (9, 0, 0)) = true := by decide +kernel
set_option maxRecDepth 1000000 in
theorem cj_b94_0 : e2_idh 5 8 h_b94_0 = true := by decide +kernel
theorem cs_b94 (hen : en_ok) (l : Launch) : e2_smOk l 3 s_b94 := by
  refine e2_conG (H := 0) (n := 2) (C := evd_231) (S := S_b94) (I := I_b94) (fuel := 4000) hen ei_231 e2_fz (e2_fa ein_216 (e2_fa ein_217 (e2_fa ein_225 (e2_fa ein_226 (e2_fa ein_227 e2_fz))))) (by decide) co_b94 fun M d _ hC hcall p e R s m args below meth c Q D cA A ads r0 ha hl0 => ?_
  have L_0 : e2_gdM M p l e R s m args below meth c Q D cA A ads r0 3 al_b94_0 [] E_b94_0 h_b94_0 := by
    refine e2_indL (u := 5) (j := 4) (lo := 2147483648) (hi := 2147483656) (b := 5) (dd := 0) hl0 (by decide) rfl rfl (Or.inr ⟨rfl, rfl⟩) rfl ci_b94_0 cj_b94_0 ?_
    intro r_0 k_0 hk_0 hp_0 hs_0 hn_0
    have hl_0 : r_0.length ≤ 6 := hs_0.len rfl
    have ha_0 := ha.ext hp_0
    exact e2_fromM hen ha_0 hcall (e2_cutA_ok (e2_fa (fun al st E h hc => hn_0 al st E h hc) e2_fz)) (hC [3]) (X := e2x_231) ex2_231 3 ck_b94_0
  have EN_0 := e2_entL (u := 5) (j := 4) (lo := 2147483648) (hi := 2147483656) hl0 rfl rfl rfl ci_b94_0 cj_b94_0 L_0
  exact e2_from hen ha hcall (e2_cutA_ok (e2_fa (fun al st E h hc => EN_0 al st E h hc) e2_fz)) (hC [3]) (X := e2x_231) ex2_231 0 ck_b94_e
/-! b95 X10_nextAt -/
def as_b95 : List ev_V := [(2, 83, 0), (0, 1, 0), (11, 2147483648, 2147483656), (11, 0, 4294967295)]
def E_b95 : e2_E := [(2147483648, 2147583648, 0, 0), (2147483648, 2147483656, 1, 0), (2147483648, 2147483688, 2, 0), (2147483648, 2147483688, 3, 0), (2147483648, 2147483668, 4, 0)]
def bn1030 : e2_Q8 := (bn446, bn1028)
noncomputable def f_b95 : ev_H := (bn1030 : e2_Q8)
noncomputable def q_b95_0 : ev_H := (bn1030 : e2_Q8)
noncomputable def rs_b95 : e2_Rs := [((12, 9, 2147483647), q_b95_0)]
noncomputable def s_b95 : e2_Sm := (231, as_b95, E_b95, f_b95, rs_b95)
noncomputable def S_b95 : List e2_Sm := []
noncomputable def I_b95 : List e2_In := [(215, 2, e2x_215), (216, 1, e2x_216), (217, 1, e2x_217), (225, 5, e2x_225), (226, 3, e2x_226), (227, 2, e2x_227)]
set_option maxRecDepth 1000000 in
theorem co_b95 : e2_okSB E_b95.length as_b95 f_b95 rs_b95 = true := by decide +kernel
def al_b95_0 : List ev_V := [(2, 83, 0), (0, 1, 0), (11, 2147483648, 2147483656), (11, 0, 4294967295), (1, 5, 4294967296), (9, 0, 0)]
def E_b95_0 : e2_E := [(2147483648, 2147583648, 0, 0), (2147483648, 2147483656, 1, 0), (2147483648, 2147483688, 2, 0), (2147483648, 2147483688, 3, 0), (2147483648, 2147483668, 4, 0), (2147483648, 2147483656, 5, 0)]
noncomputable def h_b95_0 : ev_H := (bn1030 : e2_Q8)
noncomputable def cl_b95_e : List (Nat × e2_S) := [(3, e2_cutL (al_b95_0.set 4 (11, 2147483648, 2147483656)) 5 (E_b95_0.take 5) h_b95_0)]
set_option maxRecDepth 1000000 in
theorem ck_b95_e : e2_run (e2_cal S_b95 I_b95 4000 2) (e2_fin rs_b95) e2x_231 (e2_bpL cl_b95_e) (e2_cutA cl_b95_e) 4000 (e2_seek e2x_231 0) (e2_al 6 as_b95) [] E_b95 f_b95 = true := by decide +kernel
noncomputable def cl_b95_0 : List (Nat × e2_S) := [(3, e2_cutL (al_b95_0.set 4 (13, 13, 2147483656)) 5 (E_b95_0.take 5) h_b95_0)]
set_option maxRecDepth 1000000 in
theorem ck_b95_0 : e2_runM (e2_cal S_b95 I_b95 4000 2) (e2_fin rs_b95) e2x_231 (e2_bpL cl_b95_0) (e2_cutA cl_b95_0) 4000 (e2_seek e2x_231 3) al_b95_0 [] E_b95_0 h_b95_0 = true := by decide +kernel
set_option maxRecDepth 1000000 in
theorem ci_b95_0 : e2_idl 5 (al_b95_0.set 4 (9, 0, 0)) = true := by decide +kernel
set_option maxRecDepth 1000000 in
theorem cj_b95_0 : e2_idh 5 8 h_b95_0 = true := by decide +kernel
theorem cs_b95 (hen : en_ok) (l : Launch) : e2_smOk l 3 s_b95 := by
  refine e2_conG (H := 0) (n := 2) (C := evd_231) (S := S_b95) (I := I_b95) (fuel := 4000) hen ei_231 e2_fz (e2_fa ein_215 (e2_fa ein_216 (e2_fa ein_217 (e2_fa ein_225 (e2_fa ein_226 (e2_fa ein_227 e2_fz)))))) (by decide) co_b95 fun M d _ hC hcall p e R s m args below meth c Q D cA A ads r0 ha hl0 => ?_
  have L_0 : e2_gdM M p l e R s m args below meth c Q D cA A ads r0 3 al_b95_0 [] E_b95_0 h_b95_0 := by
    refine e2_indL (u := 5) (j := 4) (lo := 2147483648) (hi := 2147483656) (b := 5) (dd := 0) hl0 (by decide) rfl rfl (Or.inr ⟨rfl, rfl⟩) rfl ci_b95_0 cj_b95_0 ?_
    intro r_0 k_0 hk_0 hp_0 hs_0 hn_0
    have hl_0 : r_0.length ≤ 6 := hs_0.len rfl
    have ha_0 := ha.ext hp_0
    exact e2_fromM hen ha_0 hcall (e2_cutA_ok (e2_fa (fun al st E h hc => hn_0 al st E h hc) e2_fz)) (hC [3]) (X := e2x_231) ex2_231 3 ck_b95_0
  have EN_0 := e2_entL (u := 5) (j := 4) (lo := 2147483648) (hi := 2147483656) hl0 rfl rfl rfl ci_b95_0 cj_b95_0 L_0
  exact e2_from hen ha hcall (e2_cutA_ok (e2_fa (fun al st E h hc => EN_0 al st E h hc) e2_fz)) (hC [3]) (X := e2x_231) ex2_231 0 ck_b95_e
/-! b96 X10_nextAt -/
def as_b96 : List ev_V := [(2, 83, 0), (0, 10, 0), (11, 2147483648, 2147483656), (11, 0, 4294967295)]
def E_b96 : e2_E := [(2147483648, 2147583648, 0, 0), (2147483648, 2147483656, 1, 0), (2147483648, 2147483688, 2, 0), (2147483648, 2147483688, 3, 0), (2147483648, 2147483668, 4, 0)]
noncomputable def f_b96 : ev_H := (bn1030 : e2_Q8)
noncomputable def q_b96_0 : ev_H := (bn1030 : e2_Q8)
noncomputable def rs_b96 : e2_Rs := [((12, 9, 2147483647), q_b96_0)]
noncomputable def s_b96 : e2_Sm := (231, as_b96, E_b96, f_b96, rs_b96)
noncomputable def S_b96 : List e2_Sm := []
noncomputable def I_b96 : List e2_In := [(215, 2, e2x_215), (216, 1, e2x_216), (217, 1, e2x_217), (225, 5, e2x_225), (226, 3, e2x_226), (227, 2, e2x_227)]
set_option maxRecDepth 1000000 in
theorem co_b96 : e2_okSB E_b96.length as_b96 f_b96 rs_b96 = true := by decide +kernel
def al_b96_0 : List ev_V := [(2, 83, 0), (0, 10, 0), (11, 2147483648, 2147483656), (11, 0, 4294967295), (1, 5, 4294967296), (9, 0, 0)]
def E_b96_0 : e2_E := [(2147483648, 2147583648, 0, 0), (2147483648, 2147483656, 1, 0), (2147483648, 2147483688, 2, 0), (2147483648, 2147483688, 3, 0), (2147483648, 2147483668, 4, 0), (2147483648, 2147483656, 5, 0)]
noncomputable def h_b96_0 : ev_H := (bn1030 : e2_Q8)
noncomputable def cl_b96_e : List (Nat × e2_S) := [(3, e2_cutL (al_b96_0.set 4 (11, 2147483648, 2147483656)) 5 (E_b96_0.take 5) h_b96_0)]
set_option maxRecDepth 1000000 in
theorem ck_b96_e : e2_run (e2_cal S_b96 I_b96 4000 2) (e2_fin rs_b96) e2x_231 (e2_bpL cl_b96_e) (e2_cutA cl_b96_e) 4000 (e2_seek e2x_231 0) (e2_al 6 as_b96) [] E_b96 f_b96 = true := by decide +kernel
noncomputable def cl_b96_0 : List (Nat × e2_S) := [(3, e2_cutL (al_b96_0.set 4 (13, 13, 2147483656)) 5 (E_b96_0.take 5) h_b96_0)]
set_option maxRecDepth 1000000 in
theorem ck_b96_0 : e2_runM (e2_cal S_b96 I_b96 4000 2) (e2_fin rs_b96) e2x_231 (e2_bpL cl_b96_0) (e2_cutA cl_b96_0) 4000 (e2_seek e2x_231 3) al_b96_0 [] E_b96_0 h_b96_0 = true := by decide +kernel
set_option maxRecDepth 1000000 in
theorem ci_b96_0 : e2_idl 5 (al_b96_0.set 4 (9, 0, 0)) = true := by decide +kernel
set_option maxRecDepth 1000000 in
theorem cj_b96_0 : e2_idh 5 8 h_b96_0 = true := by decide +kernel
theorem cs_b96 (hen : en_ok) (l : Launch) : e2_smOk l 3 s_b96 := by
  refine e2_conG (H := 0) (n := 2) (C := evd_231) (S := S_b96) (I := I_b96) (fuel := 4000) hen ei_231 e2_fz (e2_fa ein_215 (e2_fa ein_216 (e2_fa ein_217 (e2_fa ein_225 (e2_fa ein_226 (e2_fa ein_227 e2_fz)))))) (by decide) co_b96 fun M d _ hC hcall p e R s m args below meth c Q D cA A ads r0 ha hl0 => ?_
  have L_0 : e2_gdM M p l e R s m args below meth c Q D cA A ads r0 3 al_b96_0 [] E_b96_0 h_b96_0 := by
    refine e2_indL (u := 5) (j := 4) (lo := 2147483648) (hi := 2147483656) (b := 5) (dd := 0) hl0 (by decide) rfl rfl (Or.inr ⟨rfl, rfl⟩) rfl ci_b96_0 cj_b96_0 ?_
    intro r_0 k_0 hk_0 hp_0 hs_0 hn_0
    have hl_0 : r_0.length ≤ 6 := hs_0.len rfl
    have ha_0 := ha.ext hp_0
    exact e2_fromM hen ha_0 hcall (e2_cutA_ok (e2_fa (fun al st E h hc => hn_0 al st E h hc) e2_fz)) (hC [3]) (X := e2x_231) ex2_231 3 ck_b96_0
  have EN_0 := e2_entL (u := 5) (j := 4) (lo := 2147483648) (hi := 2147483656) hl0 rfl rfl rfl ci_b96_0 cj_b96_0 L_0
  exact e2_from hen ha hcall (e2_cutA_ok (e2_fa (fun al st E h hc => EN_0 al st E h hc) e2_fz)) (hC [3]) (X := e2x_231) ex2_231 0 ck_b96_e
/-! b97 X10_nextAt -/
def as_b97 : List ev_V := [(2, 83, 0), (0, 11, 0), (11, 2147483648, 2147483656), (11, 0, 4294967295)]
def E_b97 : e2_E := [(2147483648, 2147583648, 0, 0), (2147483648, 2147483656, 1, 0), (2147483648, 2147483688, 2, 0), (2147483648, 2147483688, 3, 0), (2147483648, 2147483668, 4, 0)]
noncomputable def f_b97 : ev_H := (bn1030 : e2_Q8)
noncomputable def q_b97_0 : ev_H := (bn1030 : e2_Q8)
noncomputable def rs_b97 : e2_Rs := [((12, 9, 2147483647), q_b97_0)]
noncomputable def s_b97 : e2_Sm := (231, as_b97, E_b97, f_b97, rs_b97)
noncomputable def S_b97 : List e2_Sm := []
noncomputable def I_b97 : List e2_In := [(215, 2, e2x_215), (216, 1, e2x_216), (217, 1, e2x_217), (225, 5, e2x_225), (226, 3, e2x_226), (227, 2, e2x_227)]
set_option maxRecDepth 1000000 in
theorem co_b97 : e2_okSB E_b97.length as_b97 f_b97 rs_b97 = true := by decide +kernel
def al_b97_0 : List ev_V := [(2, 83, 0), (0, 11, 0), (11, 2147483648, 2147483656), (11, 0, 4294967295), (1, 5, 4294967296), (9, 0, 0)]
def E_b97_0 : e2_E := [(2147483648, 2147583648, 0, 0), (2147483648, 2147483656, 1, 0), (2147483648, 2147483688, 2, 0), (2147483648, 2147483688, 3, 0), (2147483648, 2147483668, 4, 0), (2147483648, 2147483656, 5, 0)]
noncomputable def h_b97_0 : ev_H := (bn1030 : e2_Q8)
noncomputable def cl_b97_e : List (Nat × e2_S) := [(3, e2_cutL (al_b97_0.set 4 (11, 2147483648, 2147483656)) 5 (E_b97_0.take 5) h_b97_0)]
set_option maxRecDepth 1000000 in
theorem ck_b97_e : e2_run (e2_cal S_b97 I_b97 4000 2) (e2_fin rs_b97) e2x_231 (e2_bpL cl_b97_e) (e2_cutA cl_b97_e) 4000 (e2_seek e2x_231 0) (e2_al 6 as_b97) [] E_b97 f_b97 = true := by decide +kernel
noncomputable def cl_b97_0 : List (Nat × e2_S) := [(3, e2_cutL (al_b97_0.set 4 (13, 13, 2147483656)) 5 (E_b97_0.take 5) h_b97_0)]
set_option maxRecDepth 1000000 in
theorem ck_b97_0 : e2_runM (e2_cal S_b97 I_b97 4000 2) (e2_fin rs_b97) e2x_231 (e2_bpL cl_b97_0) (e2_cutA cl_b97_0) 4000 (e2_seek e2x_231 3) al_b97_0 [] E_b97_0 h_b97_0 = true := by decide +kernel
set_option maxRecDepth 1000000 in
theorem ci_b97_0 : e2_idl 5 (al_b97_0.set 4 (9, 0, 0)) = true := by decide +kernel
set_option maxRecDepth 1000000 in
theorem cj_b97_0 : e2_idh 5 8 h_b97_0 = true := by decide +kernel
theorem cs_b97 (hen : en_ok) (l : Launch) : e2_smOk l 3 s_b97 := by
  refine e2_conG (H := 0) (n := 2) (C := evd_231) (S := S_b97) (I := I_b97) (fuel := 4000) hen ei_231 e2_fz (e2_fa ein_215 (e2_fa ein_216 (e2_fa ein_217 (e2_fa ein_225 (e2_fa ein_226 (e2_fa ein_227 e2_fz)))))) (by decide) co_b97 fun M d _ hC hcall p e R s m args below meth c Q D cA A ads r0 ha hl0 => ?_
  have L_0 : e2_gdM M p l e R s m args below meth c Q D cA A ads r0 3 al_b97_0 [] E_b97_0 h_b97_0 := by
    refine e2_indL (u := 5) (j := 4) (lo := 2147483648) (hi := 2147483656) (b := 5) (dd := 0) hl0 (by decide) rfl rfl (Or.inr ⟨rfl, rfl⟩) rfl ci_b97_0 cj_b97_0 ?_
    intro r_0 k_0 hk_0 hp_0 hs_0 hn_0
    have hl_0 : r_0.length ≤ 6 := hs_0.len rfl
    have ha_0 := ha.ext hp_0
    exact e2_fromM hen ha_0 hcall (e2_cutA_ok (e2_fa (fun al st E h hc => hn_0 al st E h hc) e2_fz)) (hC [3]) (X := e2x_231) ex2_231 3 ck_b97_0
  have EN_0 := e2_entL (u := 5) (j := 4) (lo := 2147483648) (hi := 2147483656) hl0 rfl rfl rfl ci_b97_0 cj_b97_0 L_0
  exact e2_from hen ha hcall (e2_cutA_ok (e2_fa (fun al st E h hc => EN_0 al st E h hc) e2_fz)) (hC [3]) (X := e2x_231) ex2_231 0 ck_b97_e
/-! b98 X10_nextAt -/
def as_b98 : List ev_V := [(2, 83, 0), (0, 12, 0), (11, 2147483648, 2147483656), (11, 0, 4294967295)]
def E_b98 : e2_E := [(2147483648, 2147583648, 0, 0), (2147483648, 2147483656, 1, 0), (2147483648, 2147483688, 2, 0), (2147483648, 2147483688, 3, 0), (2147483648, 2147483668, 4, 0)]
noncomputable def f_b98 : ev_H := (bn1030 : e2_Q8)
noncomputable def q_b98_0 : ev_H := (bn1030 : e2_Q8)
noncomputable def rs_b98 : e2_Rs := [((12, 9, 2147483647), q_b98_0)]
noncomputable def s_b98 : e2_Sm := (231, as_b98, E_b98, f_b98, rs_b98)
noncomputable def S_b98 : List e2_Sm := []
noncomputable def I_b98 : List e2_In := [(215, 2, e2x_215), (216, 1, e2x_216), (217, 1, e2x_217), (225, 5, e2x_225), (226, 3, e2x_226), (227, 2, e2x_227)]
set_option maxRecDepth 1000000 in
theorem co_b98 : e2_okSB E_b98.length as_b98 f_b98 rs_b98 = true := by decide +kernel
def al_b98_0 : List ev_V := [(2, 83, 0), (0, 12, 0), (11, 2147483648, 2147483656), (11, 0, 4294967295), (1, 5, 4294967296), (9, 0, 0)]
def E_b98_0 : e2_E := [(2147483648, 2147583648, 0, 0), (2147483648, 2147483656, 1, 0), (2147483648, 2147483688, 2, 0), (2147483648, 2147483688, 3, 0), (2147483648, 2147483668, 4, 0), (2147483648, 2147483656, 5, 0)]
noncomputable def h_b98_0 : ev_H := (bn1030 : e2_Q8)
noncomputable def cl_b98_e : List (Nat × e2_S) := [(3, e2_cutL (al_b98_0.set 4 (11, 2147483648, 2147483656)) 5 (E_b98_0.take 5) h_b98_0)]
set_option maxRecDepth 1000000 in
theorem ck_b98_e : e2_run (e2_cal S_b98 I_b98 4000 2) (e2_fin rs_b98) e2x_231 (e2_bpL cl_b98_e) (e2_cutA cl_b98_e) 4000 (e2_seek e2x_231 0) (e2_al 6 as_b98) [] E_b98 f_b98 = true := by decide +kernel
noncomputable def cl_b98_0 : List (Nat × e2_S) := [(3, e2_cutL (al_b98_0.set 4 (13, 13, 2147483656)) 5 (E_b98_0.take 5) h_b98_0)]
set_option maxRecDepth 1000000 in
theorem ck_b98_0 : e2_runM (e2_cal S_b98 I_b98 4000 2) (e2_fin rs_b98) e2x_231 (e2_bpL cl_b98_0) (e2_cutA cl_b98_0) 4000 (e2_seek e2x_231 3) al_b98_0 [] E_b98_0 h_b98_0 = true := by decide +kernel
set_option maxRecDepth 1000000 in
theorem ci_b98_0 : e2_idl 5 (al_b98_0.set 4 (9, 0, 0)) = true := by decide +kernel
set_option maxRecDepth 1000000 in
theorem cj_b98_0 : e2_idh 5 8 h_b98_0 = true := by decide +kernel
theorem cs_b98 (hen : en_ok) (l : Launch) : e2_smOk l 3 s_b98 := by
  refine e2_conG (H := 0) (n := 2) (C := evd_231) (S := S_b98) (I := I_b98) (fuel := 4000) hen ei_231 e2_fz (e2_fa ein_215 (e2_fa ein_216 (e2_fa ein_217 (e2_fa ein_225 (e2_fa ein_226 (e2_fa ein_227 e2_fz)))))) (by decide) co_b98 fun M d _ hC hcall p e R s m args below meth c Q D cA A ads r0 ha hl0 => ?_
  have L_0 : e2_gdM M p l e R s m args below meth c Q D cA A ads r0 3 al_b98_0 [] E_b98_0 h_b98_0 := by
    refine e2_indL (u := 5) (j := 4) (lo := 2147483648) (hi := 2147483656) (b := 5) (dd := 0) hl0 (by decide) rfl rfl (Or.inr ⟨rfl, rfl⟩) rfl ci_b98_0 cj_b98_0 ?_
    intro r_0 k_0 hk_0 hp_0 hs_0 hn_0
    have hl_0 : r_0.length ≤ 6 := hs_0.len rfl
    have ha_0 := ha.ext hp_0
    exact e2_fromM hen ha_0 hcall (e2_cutA_ok (e2_fa (fun al st E h hc => hn_0 al st E h hc) e2_fz)) (hC [3]) (X := e2x_231) ex2_231 3 ck_b98_0
  have EN_0 := e2_entL (u := 5) (j := 4) (lo := 2147483648) (hi := 2147483656) hl0 rfl rfl rfl ci_b98_0 cj_b98_0 L_0
  exact e2_from hen ha hcall (e2_cutA_ok (e2_fa (fun al st E h hc => EN_0 al st E h hc) e2_fz)) (hC [3]) (X := e2x_231) ex2_231 0 ck_b98_e
/-! b99 X10_nextAt -/
def as_b99 : List ev_V := [(2, 83, 0), (0, 13, 0), (11, 2147483648, 2147483656), (11, 0, 4294967295)]
def E_b99 : e2_E := [(2147483648, 2147583648, 0, 0), (2147483648, 2147483656, 1, 0), (2147483648, 2147483688, 2, 0), (2147483648, 2147483688, 3, 0), (2147483648, 2147483668, 4, 0)]
noncomputable def f_b99 : ev_H := (bn1030 : e2_Q8)
noncomputable def q_b99_0 : ev_H := (bn1030 : e2_Q8)
noncomputable def rs_b99 : e2_Rs := [((12, 9, 2147483647), q_b99_0)]
noncomputable def s_b99 : e2_Sm := (231, as_b99, E_b99, f_b99, rs_b99)
noncomputable def S_b99 : List e2_Sm := []
noncomputable def I_b99 : List e2_In := [(215, 2, e2x_215), (216, 1, e2x_216), (217, 1, e2x_217), (225, 5, e2x_225), (226, 3, e2x_226), (227, 2, e2x_227)]
set_option maxRecDepth 1000000 in
theorem co_b99 : e2_okSB E_b99.length as_b99 f_b99 rs_b99 = true := by decide +kernel
def al_b99_0 : List ev_V := [(2, 83, 0), (0, 13, 0), (11, 2147483648, 2147483656), (11, 0, 4294967295), (1, 5, 4294967296), (9, 0, 0)]
def E_b99_0 : e2_E := [(2147483648, 2147583648, 0, 0), (2147483648, 2147483656, 1, 0), (2147483648, 2147483688, 2, 0), (2147483648, 2147483688, 3, 0), (2147483648, 2147483668, 4, 0), (2147483648, 2147483656, 5, 0)]
noncomputable def h_b99_0 : ev_H := (bn1030 : e2_Q8)
noncomputable def cl_b99_e : List (Nat × e2_S) := [(3, e2_cutL (al_b99_0.set 4 (11, 2147483648, 2147483656)) 5 (E_b99_0.take 5) h_b99_0)]
set_option maxRecDepth 1000000 in
theorem ck_b99_e : e2_run (e2_cal S_b99 I_b99 4000 2) (e2_fin rs_b99) e2x_231 (e2_bpL cl_b99_e) (e2_cutA cl_b99_e) 4000 (e2_seek e2x_231 0) (e2_al 6 as_b99) [] E_b99 f_b99 = true := by decide +kernel
noncomputable def cl_b99_0 : List (Nat × e2_S) := [(3, e2_cutL (al_b99_0.set 4 (13, 13, 2147483656)) 5 (E_b99_0.take 5) h_b99_0)]
set_option maxRecDepth 1000000 in
theorem ck_b99_0 : e2_runM (e2_cal S_b99 I_b99 4000 2) (e2_fin rs_b99) e2x_231 (e2_bpL cl_b99_0) (e2_cutA cl_b99_0) 4000 (e2_seek e2x_231 3) al_b99_0 [] E_b99_0 h_b99_0 = true := by decide +kernel
set_option maxRecDepth 1000000 in
theorem ci_b99_0 : e2_idl 5 (al_b99_0.set 4 (9, 0, 0)) = true := by decide +kernel
set_option maxRecDepth 1000000 in
theorem cj_b99_0 : e2_idh 5 8 h_b99_0 = true := by decide +kernel
theorem cs_b99 (hen : en_ok) (l : Launch) : e2_smOk l 3 s_b99 := by
  refine e2_conG (H := 0) (n := 2) (C := evd_231) (S := S_b99) (I := I_b99) (fuel := 4000) hen ei_231 e2_fz (e2_fa ein_215 (e2_fa ein_216 (e2_fa ein_217 (e2_fa ein_225 (e2_fa ein_226 (e2_fa ein_227 e2_fz)))))) (by decide) co_b99 fun M d _ hC hcall p e R s m args below meth c Q D cA A ads r0 ha hl0 => ?_
  have L_0 : e2_gdM M p l e R s m args below meth c Q D cA A ads r0 3 al_b99_0 [] E_b99_0 h_b99_0 := by
    refine e2_indL (u := 5) (j := 4) (lo := 2147483648) (hi := 2147483656) (b := 5) (dd := 0) hl0 (by decide) rfl rfl (Or.inr ⟨rfl, rfl⟩) rfl ci_b99_0 cj_b99_0 ?_
    intro r_0 k_0 hk_0 hp_0 hs_0 hn_0
    have hl_0 : r_0.length ≤ 6 := hs_0.len rfl
    have ha_0 := ha.ext hp_0
    exact e2_fromM hen ha_0 hcall (e2_cutA_ok (e2_fa (fun al st E h hc => hn_0 al st E h hc) e2_fz)) (hC [3]) (X := e2x_231) ex2_231 3 ck_b99_0
  have EN_0 := e2_entL (u := 5) (j := 4) (lo := 2147483648) (hi := 2147483656) hl0 rfl rfl rfl ci_b99_0 cj_b99_0 L_0
  exact e2_from hen ha hcall (e2_cutA_ok (e2_fa (fun al st E h hc => EN_0 al st E h hc) e2_fz)) (hC [3]) (X := e2x_231) ex2_231 0 ck_b99_e
/-! b100 X10_nextAt -/
def as_b100 : List ev_V := [(2, 83, 0), (0, 14, 0), (11, 2147483648, 2147483656), (11, 0, 4294967295)]
def E_b100 : e2_E := [(2147483648, 2147583648, 0, 0), (2147483648, 2147483656, 1, 0), (2147483648, 2147483688, 2, 0), (2147483648, 2147483688, 3, 0), (2147483648, 2147483668, 4, 0)]
noncomputable def f_b100 : ev_H := (bn1030 : e2_Q8)
noncomputable def q_b100_0 : ev_H := (bn1030 : e2_Q8)
noncomputable def rs_b100 : e2_Rs := [((12, 9, 2147483647), q_b100_0)]
noncomputable def s_b100 : e2_Sm := (231, as_b100, E_b100, f_b100, rs_b100)
noncomputable def S_b100 : List e2_Sm := []
noncomputable def I_b100 : List e2_In := [(215, 2, e2x_215), (216, 1, e2x_216), (217, 1, e2x_217), (225, 5, e2x_225), (226, 3, e2x_226), (227, 2, e2x_227)]
set_option maxRecDepth 1000000 in
theorem co_b100 : e2_okSB E_b100.length as_b100 f_b100 rs_b100 = true := by decide +kernel
def al_b100_0 : List ev_V := [(2, 83, 0), (0, 14, 0), (11, 2147483648, 2147483656), (11, 0, 4294967295), (1, 5, 4294967296), (9, 0, 0)]
def E_b100_0 : e2_E := [(2147483648, 2147583648, 0, 0), (2147483648, 2147483656, 1, 0), (2147483648, 2147483688, 2, 0), (2147483648, 2147483688, 3, 0), (2147483648, 2147483668, 4, 0), (2147483648, 2147483656, 5, 0)]
noncomputable def h_b100_0 : ev_H := (bn1030 : e2_Q8)
noncomputable def cl_b100_e : List (Nat × e2_S) := [(3, e2_cutL (al_b100_0.set 4 (11, 2147483648, 2147483656)) 5 (E_b100_0.take 5) h_b100_0)]
set_option maxRecDepth 1000000 in
theorem ck_b100_e : e2_run (e2_cal S_b100 I_b100 4000 2) (e2_fin rs_b100) e2x_231 (e2_bpL cl_b100_e) (e2_cutA cl_b100_e) 4000 (e2_seek e2x_231 0) (e2_al 6 as_b100) [] E_b100 f_b100 = true := by decide +kernel
noncomputable def cl_b100_0 : List (Nat × e2_S) := [(3, e2_cutL (al_b100_0.set 4 (13, 13, 2147483656)) 5 (E_b100_0.take 5) h_b100_0)]
set_option maxRecDepth 1000000 in
theorem ck_b100_0 : e2_runM (e2_cal S_b100 I_b100 4000 2) (e2_fin rs_b100) e2x_231 (e2_bpL cl_b100_0) (e2_cutA cl_b100_0) 4000 (e2_seek e2x_231 3) al_b100_0 [] E_b100_0 h_b100_0 = true := by decide +kernel
set_option maxRecDepth 1000000 in
theorem ci_b100_0 : e2_idl 5 (al_b100_0.set 4 (9, 0, 0)) = true := by decide +kernel
set_option maxRecDepth 1000000 in
theorem cj_b100_0 : e2_idh 5 8 h_b100_0 = true := by decide +kernel
theorem cs_b100 (hen : en_ok) (l : Launch) : e2_smOk l 3 s_b100 := by
  refine e2_conG (H := 0) (n := 2) (C := evd_231) (S := S_b100) (I := I_b100) (fuel := 4000) hen ei_231 e2_fz (e2_fa ein_215 (e2_fa ein_216 (e2_fa ein_217 (e2_fa ein_225 (e2_fa ein_226 (e2_fa ein_227 e2_fz)))))) (by decide) co_b100 fun M d _ hC hcall p e R s m args below meth c Q D cA A ads r0 ha hl0 => ?_
  have L_0 : e2_gdM M p l e R s m args below meth c Q D cA A ads r0 3 al_b100_0 [] E_b100_0 h_b100_0 := by
    refine e2_indL (u := 5) (j := 4) (lo := 2147483648) (hi := 2147483656) (b := 5) (dd := 0) hl0 (by decide) rfl rfl (Or.inr ⟨rfl, rfl⟩) rfl ci_b100_0 cj_b100_0 ?_
    intro r_0 k_0 hk_0 hp_0 hs_0 hn_0
    have hl_0 : r_0.length ≤ 6 := hs_0.len rfl
    have ha_0 := ha.ext hp_0
    exact e2_fromM hen ha_0 hcall (e2_cutA_ok (e2_fa (fun al st E h hc => hn_0 al st E h hc) e2_fz)) (hC [3]) (X := e2x_231) ex2_231 3 ck_b100_0
  have EN_0 := e2_entL (u := 5) (j := 4) (lo := 2147483648) (hi := 2147483656) hl0 rfl rfl rfl ci_b100_0 cj_b100_0 L_0
  exact e2_from hen ha hcall (e2_cutA_ok (e2_fa (fun al st E h hc => EN_0 al st E h hc) e2_fz)) (hC [3]) (X := e2x_231) ex2_231 0 ck_b100_e
/-! b101 X10_nextAt -/
def as_b101 : List ev_V := [(2, 83, 0), (0, 15, 0), (11, 2147483648, 2147483656), (11, 0, 4294967295)]
def E_b101 : e2_E := [(2147483648, 2147583648, 0, 0), (2147483648, 2147483656, 1, 0), (2147483648, 2147483688, 2, 0), (2147483648, 2147483688, 3, 0), (2147483648, 2147483668, 4, 0)]
noncomputable def f_b101 : ev_H := (bn1030 : e2_Q8)
noncomputable def q_b101_0 : ev_H := (bn1030 : e2_Q8)
noncomputable def rs_b101 : e2_Rs := [((12, 9, 2147483647), q_b101_0)]
noncomputable def s_b101 : e2_Sm := (231, as_b101, E_b101, f_b101, rs_b101)
noncomputable def S_b101 : List e2_Sm := []
noncomputable def I_b101 : List e2_In := [(215, 2, e2x_215), (216, 1, e2x_216), (217, 1, e2x_217), (225, 5, e2x_225), (226, 3, e2x_226), (227, 2, e2x_227)]
set_option maxRecDepth 1000000 in
theorem co_b101 : e2_okSB E_b101.length as_b101 f_b101 rs_b101 = true := by decide +kernel
def al_b101_0 : List ev_V := [(2, 83, 0), (0, 15, 0), (11, 2147483648, 2147483656), (11, 0, 4294967295), (1, 5, 4294967296), (9, 0, 0)]
def E_b101_0 : e2_E := [(2147483648, 2147583648, 0, 0), (2147483648, 2147483656, 1, 0), (2147483648, 2147483688, 2, 0), (2147483648, 2147483688, 3, 0), (2147483648, 2147483668, 4, 0), (2147483648, 2147483656, 5, 0)]
noncomputable def h_b101_0 : ev_H := (bn1030 : e2_Q8)
noncomputable def cl_b101_e : List (Nat × e2_S) := [(3, e2_cutL (al_b101_0.set 4 (11, 2147483648, 2147483656)) 5 (E_b101_0.take 5) h_b101_0)]
set_option maxRecDepth 1000000 in
theorem ck_b101_e : e2_run (e2_cal S_b101 I_b101 4000 2) (e2_fin rs_b101) e2x_231 (e2_bpL cl_b101_e) (e2_cutA cl_b101_e) 4000 (e2_seek e2x_231 0) (e2_al 6 as_b101) [] E_b101 f_b101 = true := by decide +kernel
noncomputable def cl_b101_0 : List (Nat × e2_S) := [(3, e2_cutL (al_b101_0.set 4 (13, 13, 2147483656)) 5 (E_b101_0.take 5) h_b101_0)]
set_option maxRecDepth 1000000 in
theorem ck_b101_0 : e2_runM (e2_cal S_b101 I_b101 4000 2) (e2_fin rs_b101) e2x_231 (e2_bpL cl_b101_0) (e2_cutA cl_b101_0) 4000 (e2_seek e2x_231 3) al_b101_0 [] E_b101_0 h_b101_0 = true := by decide +kernel
set_option maxRecDepth 1000000 in
theorem ci_b101_0 : e2_idl 5 (al_b101_0.set 4 (9, 0, 0)) = true := by decide +kernel
set_option maxRecDepth 1000000 in
theorem cj_b101_0 : e2_idh 5 8 h_b101_0 = true := by decide +kernel
theorem cs_b101 (hen : en_ok) (l : Launch) : e2_smOk l 3 s_b101 := by
  refine e2_conG (H := 0) (n := 2) (C := evd_231) (S := S_b101) (I := I_b101) (fuel := 4000) hen ei_231 e2_fz (e2_fa ein_215 (e2_fa ein_216 (e2_fa ein_217 (e2_fa ein_225 (e2_fa ein_226 (e2_fa ein_227 e2_fz)))))) (by decide) co_b101 fun M d _ hC hcall p e R s m args below meth c Q D cA A ads r0 ha hl0 => ?_
  have L_0 : e2_gdM M p l e R s m args below meth c Q D cA A ads r0 3 al_b101_0 [] E_b101_0 h_b101_0 := by
    refine e2_indL (u := 5) (j := 4) (lo := 2147483648) (hi := 2147483656) (b := 5) (dd := 0) hl0 (by decide) rfl rfl (Or.inr ⟨rfl, rfl⟩) rfl ci_b101_0 cj_b101_0 ?_
    intro r_0 k_0 hk_0 hp_0 hs_0 hn_0
    have hl_0 : r_0.length ≤ 6 := hs_0.len rfl
    have ha_0 := ha.ext hp_0
    exact e2_fromM hen ha_0 hcall (e2_cutA_ok (e2_fa (fun al st E h hc => hn_0 al st E h hc) e2_fz)) (hC [3]) (X := e2x_231) ex2_231 3 ck_b101_0
  have EN_0 := e2_entL (u := 5) (j := 4) (lo := 2147483648) (hi := 2147483656) hl0 rfl rfl rfl ci_b101_0 cj_b101_0 L_0
  exact e2_from hen ha hcall (e2_cutA_ok (e2_fa (fun al st E h hc => EN_0 al st E h hc) e2_fz)) (hC [3]) (X := e2x_231) ex2_231 0 ck_b101_e
/-! b102 X10_nextAt -/
def as_b102 : List ev_V := [(2, 83, 0), (0, 16, 0), (11, 2147483648, 2147483656), (11, 0, 4294967295)]
def E_b102 : e2_E := [(2147483648, 2147583648, 0, 0), (2147483648, 2147483656, 1, 0), (2147483648, 2147483688, 2, 0), (2147483648, 2147483688, 3, 0), (2147483648, 2147483668, 4, 0)]
noncomputable def f_b102 : ev_H := (bn1030 : e2_Q8)
noncomputable def q_b102_0 : ev_H := (bn1030 : e2_Q8)
noncomputable def rs_b102 : e2_Rs := [((12, 9, 2147483647), q_b102_0)]
noncomputable def s_b102 : e2_Sm := (231, as_b102, E_b102, f_b102, rs_b102)
noncomputable def S_b102 : List e2_Sm := []
noncomputable def I_b102 : List e2_In := [(215, 2, e2x_215), (216, 1, e2x_216), (217, 1, e2x_217), (225, 5, e2x_225), (226, 3, e2x_226), (227, 2, e2x_227)]
set_option maxRecDepth 1000000 in
theorem co_b102 : e2_okSB E_b102.length as_b102 f_b102 rs_b102 = true := by decide +kernel
def al_b102_0 : List ev_V := [(2, 83, 0), (0, 16, 0), (11, 2147483648, 2147483656), (11, 0, 4294967295), (1, 5, 4294967296), (9, 0, 0)]
def E_b102_0 : e2_E := [(2147483648, 2147583648, 0, 0), (2147483648, 2147483656, 1, 0), (2147483648, 2147483688, 2, 0), (2147483648, 2147483688, 3, 0), (2147483648, 2147483668, 4, 0), (2147483648, 2147483656, 5, 0)]
noncomputable def h_b102_0 : ev_H := (bn1030 : e2_Q8)
noncomputable def cl_b102_e : List (Nat × e2_S) := [(3, e2_cutL (al_b102_0.set 4 (11, 2147483648, 2147483656)) 5 (E_b102_0.take 5) h_b102_0)]
set_option maxRecDepth 1000000 in
theorem ck_b102_e : e2_run (e2_cal S_b102 I_b102 4000 2) (e2_fin rs_b102) e2x_231 (e2_bpL cl_b102_e) (e2_cutA cl_b102_e) 4000 (e2_seek e2x_231 0) (e2_al 6 as_b102) [] E_b102 f_b102 = true := by decide +kernel
noncomputable def cl_b102_0 : List (Nat × e2_S) := [(3, e2_cutL (al_b102_0.set 4 (13, 13, 2147483656)) 5 (E_b102_0.take 5) h_b102_0)]
set_option maxRecDepth 1000000 in
theorem ck_b102_0 : e2_runM (e2_cal S_b102 I_b102 4000 2) (e2_fin rs_b102) e2x_231 (e2_bpL cl_b102_0) (e2_cutA cl_b102_0) 4000 (e2_seek e2x_231 3) al_b102_0 [] E_b102_0 h_b102_0 = true := by decide +kernel
set_option maxRecDepth 1000000 in
theorem ci_b102_0 : e2_idl 5 (al_b102_0.set 4 (9, 0, 0)) = true := by decide +kernel
set_option maxRecDepth 1000000 in
theorem cj_b102_0 : e2_idh 5 8 h_b102_0 = true := by decide +kernel
theorem cs_b102 (hen : en_ok) (l : Launch) : e2_smOk l 3 s_b102 := by
  refine e2_conG (H := 0) (n := 2) (C := evd_231) (S := S_b102) (I := I_b102) (fuel := 4000) hen ei_231 e2_fz (e2_fa ein_215 (e2_fa ein_216 (e2_fa ein_217 (e2_fa ein_225 (e2_fa ein_226 (e2_fa ein_227 e2_fz)))))) (by decide) co_b102 fun M d _ hC hcall p e R s m args below meth c Q D cA A ads r0 ha hl0 => ?_
  have L_0 : e2_gdM M p l e R s m args below meth c Q D cA A ads r0 3 al_b102_0 [] E_b102_0 h_b102_0 := by
    refine e2_indL (u := 5) (j := 4) (lo := 2147483648) (hi := 2147483656) (b := 5) (dd := 0) hl0 (by decide) rfl rfl (Or.inr ⟨rfl, rfl⟩) rfl ci_b102_0 cj_b102_0 ?_
    intro r_0 k_0 hk_0 hp_0 hs_0 hn_0
    have hl_0 : r_0.length ≤ 6 := hs_0.len rfl
    have ha_0 := ha.ext hp_0
    exact e2_fromM hen ha_0 hcall (e2_cutA_ok (e2_fa (fun al st E h hc => hn_0 al st E h hc) e2_fz)) (hC [3]) (X := e2x_231) ex2_231 3 ck_b102_0
  have EN_0 := e2_entL (u := 5) (j := 4) (lo := 2147483648) (hi := 2147483656) hl0 rfl rfl rfl ci_b102_0 cj_b102_0 L_0
  exact e2_from hen ha hcall (e2_cutA_ok (e2_fa (fun al st E h hc => EN_0 al st E h hc) e2_fz)) (hC [3]) (X := e2x_231) ex2_231 0 ck_b102_e
/-! b103 X10_nextAt -/
def as_b103 : List ev_V := [(2, 83, 0), (0, 17, 0), (11, 2147483648, 2147483656), (11, 0, 4294967295)]
def E_b103 : e2_E := [(2147483648, 2147583648, 0, 0), (2147483648, 2147483656, 1, 0), (2147483648, 2147483688, 2, 0), (2147483648, 2147483688, 3, 0), (2147483648, 2147483668, 4, 0)]
noncomputable def f_b103 : ev_H := (bn1030 : e2_Q8)
noncomputable def q_b103_0 : ev_H := (bn1030 : e2_Q8)
noncomputable def rs_b103 : e2_Rs := [((12, 9, 2147483647), q_b103_0)]
noncomputable def s_b103 : e2_Sm := (231, as_b103, E_b103, f_b103, rs_b103)
noncomputable def S_b103 : List e2_Sm := []
noncomputable def I_b103 : List e2_In := [(215, 2, e2x_215), (216, 1, e2x_216), (217, 1, e2x_217), (225, 5, e2x_225), (226, 3, e2x_226), (227, 2, e2x_227)]
set_option maxRecDepth 1000000 in
theorem co_b103 : e2_okSB E_b103.length as_b103 f_b103 rs_b103 = true := by decide +kernel
def al_b103_0 : List ev_V := [(2, 83, 0), (0, 17, 0), (11, 2147483648, 2147483656), (11, 0, 4294967295), (1, 5, 4294967296), (9, 0, 0)]
def E_b103_0 : e2_E := [(2147483648, 2147583648, 0, 0), (2147483648, 2147483656, 1, 0), (2147483648, 2147483688, 2, 0), (2147483648, 2147483688, 3, 0), (2147483648, 2147483668, 4, 0), (2147483648, 2147483656, 5, 0)]
noncomputable def h_b103_0 : ev_H := (bn1030 : e2_Q8)
noncomputable def cl_b103_e : List (Nat × e2_S) := [(3, e2_cutL (al_b103_0.set 4 (11, 2147483648, 2147483656)) 5 (E_b103_0.take 5) h_b103_0)]
set_option maxRecDepth 1000000 in
theorem ck_b103_e : e2_run (e2_cal S_b103 I_b103 4000 2) (e2_fin rs_b103) e2x_231 (e2_bpL cl_b103_e) (e2_cutA cl_b103_e) 4000 (e2_seek e2x_231 0) (e2_al 6 as_b103) [] E_b103 f_b103 = true := by decide +kernel
noncomputable def cl_b103_0 : List (Nat × e2_S) := [(3, e2_cutL (al_b103_0.set 4 (13, 13, 2147483656)) 5 (E_b103_0.take 5) h_b103_0)]
set_option maxRecDepth 1000000 in
theorem ck_b103_0 : e2_runM (e2_cal S_b103 I_b103 4000 2) (e2_fin rs_b103) e2x_231 (e2_bpL cl_b103_0) (e2_cutA cl_b103_0) 4000 (e2_seek e2x_231 3) al_b103_0 [] E_b103_0 h_b103_0 = true := by decide +kernel
set_option maxRecDepth 1000000 in
theorem ci_b103_0 : e2_idl 5 (al_b103_0.set 4 (9, 0, 0)) = true := by decide +kernel
set_option maxRecDepth 1000000 in
theorem cj_b103_0 : e2_idh 5 8 h_b103_0 = true := by decide +kernel
theorem cs_b103 (hen : en_ok) (l : Launch) : e2_smOk l 3 s_b103 := by
  refine e2_conG (H := 0) (n := 2) (C := evd_231) (S := S_b103) (I := I_b103) (fuel := 4000) hen ei_231 e2_fz (e2_fa ein_215 (e2_fa ein_216 (e2_fa ein_217 (e2_fa ein_225 (e2_fa ein_226 (e2_fa ein_227 e2_fz)))))) (by decide) co_b103 fun M d _ hC hcall p e R s m args below meth c Q D cA A ads r0 ha hl0 => ?_
  have L_0 : e2_gdM M p l e R s m args below meth c Q D cA A ads r0 3 al_b103_0 [] E_b103_0 h_b103_0 := by
    refine e2_indL (u := 5) (j := 4) (lo := 2147483648) (hi := 2147483656) (b := 5) (dd := 0) hl0 (by decide) rfl rfl (Or.inr ⟨rfl, rfl⟩) rfl ci_b103_0 cj_b103_0 ?_
    intro r_0 k_0 hk_0 hp_0 hs_0 hn_0
    have hl_0 : r_0.length ≤ 6 := hs_0.len rfl
    have ha_0 := ha.ext hp_0
    exact e2_fromM hen ha_0 hcall (e2_cutA_ok (e2_fa (fun al st E h hc => hn_0 al st E h hc) e2_fz)) (hC [3]) (X := e2x_231) ex2_231 3 ck_b103_0
  have EN_0 := e2_entL (u := 5) (j := 4) (lo := 2147483648) (hi := 2147483656) hl0 rfl rfl rfl ci_b103_0 cj_b103_0 L_0
  exact e2_from hen ha hcall (e2_cutA_ok (e2_fa (fun al st E h hc => EN_0 al st E h hc) e2_fz)) (hC [3]) (X := e2x_231) ex2_231 0 ck_b103_e
/-! b104 X10_nextAt -/
def as_b104 : List ev_V := [(2, 83, 0), (0, 18, 0), (11, 2147483648, 2147483656), (11, 0, 4294967295)]
def E_b104 : e2_E := [(2147483648, 2147583648, 0, 0), (2147483648, 2147483656, 1, 0), (2147483648, 2147483688, 2, 0), (2147483648, 2147483688, 3, 0), (2147483648, 2147483668, 4, 0)]
noncomputable def f_b104 : ev_H := (bn1030 : e2_Q8)
noncomputable def q_b104_0 : ev_H := (bn1030 : e2_Q8)
noncomputable def rs_b104 : e2_Rs := [((12, 9, 2147483647), q_b104_0)]
noncomputable def s_b104 : e2_Sm := (231, as_b104, E_b104, f_b104, rs_b104)
noncomputable def S_b104 : List e2_Sm := []
noncomputable def I_b104 : List e2_In := [(215, 2, e2x_215), (216, 1, e2x_216), (217, 1, e2x_217), (225, 5, e2x_225), (226, 3, e2x_226), (227, 2, e2x_227)]
set_option maxRecDepth 1000000 in
theorem co_b104 : e2_okSB E_b104.length as_b104 f_b104 rs_b104 = true := by decide +kernel
def al_b104_0 : List ev_V := [(2, 83, 0), (0, 18, 0), (11, 2147483648, 2147483656), (11, 0, 4294967295), (1, 5, 4294967296), (9, 0, 0)]
def E_b104_0 : e2_E := [(2147483648, 2147583648, 0, 0), (2147483648, 2147483656, 1, 0), (2147483648, 2147483688, 2, 0), (2147483648, 2147483688, 3, 0), (2147483648, 2147483668, 4, 0), (2147483648, 2147483656, 5, 0)]
noncomputable def h_b104_0 : ev_H := (bn1030 : e2_Q8)
noncomputable def cl_b104_e : List (Nat × e2_S) := [(3, e2_cutL (al_b104_0.set 4 (11, 2147483648, 2147483656)) 5 (E_b104_0.take 5) h_b104_0)]
set_option maxRecDepth 1000000 in
theorem ck_b104_e : e2_run (e2_cal S_b104 I_b104 4000 2) (e2_fin rs_b104) e2x_231 (e2_bpL cl_b104_e) (e2_cutA cl_b104_e) 4000 (e2_seek e2x_231 0) (e2_al 6 as_b104) [] E_b104 f_b104 = true := by decide +kernel
noncomputable def cl_b104_0 : List (Nat × e2_S) := [(3, e2_cutL (al_b104_0.set 4 (13, 13, 2147483656)) 5 (E_b104_0.take 5) h_b104_0)]
set_option maxRecDepth 1000000 in
theorem ck_b104_0 : e2_runM (e2_cal S_b104 I_b104 4000 2) (e2_fin rs_b104) e2x_231 (e2_bpL cl_b104_0) (e2_cutA cl_b104_0) 4000 (e2_seek e2x_231 3) al_b104_0 [] E_b104_0 h_b104_0 = true := by decide +kernel
set_option maxRecDepth 1000000 in
theorem ci_b104_0 : e2_idl 5 (al_b104_0.set 4 (9, 0, 0)) = true := by decide +kernel
set_option maxRecDepth 1000000 in
theorem cj_b104_0 : e2_idh 5 8 h_b104_0 = true := by decide +kernel
theorem cs_b104 (hen : en_ok) (l : Launch) : e2_smOk l 3 s_b104 := by
  refine e2_conG (H := 0) (n := 2) (C := evd_231) (S := S_b104) (I := I_b104) (fuel := 4000) hen ei_231 e2_fz (e2_fa ein_215 (e2_fa ein_216 (e2_fa ein_217 (e2_fa ein_225 (e2_fa ein_226 (e2_fa ein_227 e2_fz)))))) (by decide) co_b104 fun M d _ hC hcall p e R s m args below meth c Q D cA A ads r0 ha hl0 => ?_
  have L_0 : e2_gdM M p l e R s m args below meth c Q D cA A ads r0 3 al_b104_0 [] E_b104_0 h_b104_0 := by
    refine e2_indL (u := 5) (j := 4) (lo := 2147483648) (hi := 2147483656) (b := 5) (dd := 0) hl0 (by decide) rfl rfl (Or.inr ⟨rfl, rfl⟩) rfl ci_b104_0 cj_b104_0 ?_
    intro r_0 k_0 hk_0 hp_0 hs_0 hn_0
    have hl_0 : r_0.length ≤ 6 := hs_0.len rfl
    have ha_0 := ha.ext hp_0
    exact e2_fromM hen ha_0 hcall (e2_cutA_ok (e2_fa (fun al st E h hc => hn_0 al st E h hc) e2_fz)) (hC [3]) (X := e2x_231) ex2_231 3 ck_b104_0
  have EN_0 := e2_entL (u := 5) (j := 4) (lo := 2147483648) (hi := 2147483656) hl0 rfl rfl rfl ci_b104_0 cj_b104_0 L_0
  exact e2_from hen ha hcall (e2_cutA_ok (e2_fa (fun al st E h hc => EN_0 al st E h hc) e2_fz)) (hC [3]) (X := e2x_231) ex2_231 0 ck_b104_e
/-! b105 X10_nextAt -/
def as_b105 : List ev_V := [(2, 83, 0), (0, 19, 0), (11, 2147483648, 2147483656), (11, 0, 4294967295)]
def E_b105 : e2_E := [(2147483648, 2147583648, 0, 0), (2147483648, 2147483656, 1, 0), (2147483648, 2147483688, 2, 0), (2147483648, 2147483688, 3, 0), (2147483648, 2147483668, 4, 0)]
noncomputable def f_b105 : ev_H := (bn1030 : e2_Q8)
noncomputable def q_b105_0 : ev_H := (bn1030 : e2_Q8)
noncomputable def rs_b105 : e2_Rs := [((12, 9, 2147483647), q_b105_0)]
noncomputable def s_b105 : e2_Sm := (231, as_b105, E_b105, f_b105, rs_b105)
noncomputable def S_b105 : List e2_Sm := []
noncomputable def I_b105 : List e2_In := [(215, 2, e2x_215), (216, 1, e2x_216), (217, 1, e2x_217), (225, 5, e2x_225), (226, 3, e2x_226), (227, 2, e2x_227)]
set_option maxRecDepth 1000000 in
theorem co_b105 : e2_okSB E_b105.length as_b105 f_b105 rs_b105 = true := by decide +kernel
def al_b105_0 : List ev_V := [(2, 83, 0), (0, 19, 0), (11, 2147483648, 2147483656), (11, 0, 4294967295), (1, 5, 4294967296), (9, 0, 0)]
def E_b105_0 : e2_E := [(2147483648, 2147583648, 0, 0), (2147483648, 2147483656, 1, 0), (2147483648, 2147483688, 2, 0), (2147483648, 2147483688, 3, 0), (2147483648, 2147483668, 4, 0), (2147483648, 2147483656, 5, 0)]
noncomputable def h_b105_0 : ev_H := (bn1030 : e2_Q8)
noncomputable def cl_b105_e : List (Nat × e2_S) := [(3, e2_cutL (al_b105_0.set 4 (11, 2147483648, 2147483656)) 5 (E_b105_0.take 5) h_b105_0)]
set_option maxRecDepth 1000000 in
theorem ck_b105_e : e2_run (e2_cal S_b105 I_b105 4000 2) (e2_fin rs_b105) e2x_231 (e2_bpL cl_b105_e) (e2_cutA cl_b105_e) 4000 (e2_seek e2x_231 0) (e2_al 6 as_b105) [] E_b105 f_b105 = true := by decide +kernel
noncomputable def cl_b105_0 : List (Nat × e2_S) := [(3, e2_cutL (al_b105_0.set 4 (13, 13, 2147483656)) 5 (E_b105_0.take 5) h_b105_0)]
set_option maxRecDepth 1000000 in
theorem ck_b105_0 : e2_runM (e2_cal S_b105 I_b105 4000 2) (e2_fin rs_b105) e2x_231 (e2_bpL cl_b105_0) (e2_cutA cl_b105_0) 4000 (e2_seek e2x_231 3) al_b105_0 [] E_b105_0 h_b105_0 = true := by decide +kernel
set_option maxRecDepth 1000000 in
theorem ci_b105_0 : e2_idl 5 (al_b105_0.set 4 (9, 0, 0)) = true := by decide +kernel
set_option maxRecDepth 1000000 in
theorem cj_b105_0 : e2_idh 5 8 h_b105_0 = true := by decide +kernel
theorem cs_b105 (hen : en_ok) (l : Launch) : e2_smOk l 3 s_b105 := by
  refine e2_conG (H := 0) (n := 2) (C := evd_231) (S := S_b105) (I := I_b105) (fuel := 4000) hen ei_231 e2_fz (e2_fa ein_215 (e2_fa ein_216 (e2_fa ein_217 (e2_fa ein_225 (e2_fa ein_226 (e2_fa ein_227 e2_fz)))))) (by decide) co_b105 fun M d _ hC hcall p e R s m args below meth c Q D cA A ads r0 ha hl0 => ?_
  have L_0 : e2_gdM M p l e R s m args below meth c Q D cA A ads r0 3 al_b105_0 [] E_b105_0 h_b105_0 := by
    refine e2_indL (u := 5) (j := 4) (lo := 2147483648) (hi := 2147483656) (b := 5) (dd := 0) hl0 (by decide) rfl rfl (Or.inr ⟨rfl, rfl⟩) rfl ci_b105_0 cj_b105_0 ?_
    intro r_0 k_0 hk_0 hp_0 hs_0 hn_0
    have hl_0 : r_0.length ≤ 6 := hs_0.len rfl
    have ha_0 := ha.ext hp_0
    exact e2_fromM hen ha_0 hcall (e2_cutA_ok (e2_fa (fun al st E h hc => hn_0 al st E h hc) e2_fz)) (hC [3]) (X := e2x_231) ex2_231 3 ck_b105_0
  have EN_0 := e2_entL (u := 5) (j := 4) (lo := 2147483648) (hi := 2147483656) hl0 rfl rfl rfl ci_b105_0 cj_b105_0 L_0
  exact e2_from hen ha hcall (e2_cutA_ok (e2_fa (fun al st E h hc => EN_0 al st E h hc) e2_fz)) (hC [3]) (X := e2x_231) ex2_231 0 ck_b105_e
/-! b106 X10_nextAt -/
def as_b106 : List ev_V := [(2, 83, 0), (0, 2, 0), (11, 2147483648, 2147483656), (11, 0, 4294967295)]
def E_b106 : e2_E := [(2147483648, 2147583648, 0, 0), (2147483648, 2147483656, 1, 0), (2147483648, 2147483688, 2, 0), (2147483648, 2147483688, 3, 0), (2147483648, 2147483668, 4, 0)]
noncomputable def f_b106 : ev_H := (bn1030 : e2_Q8)
noncomputable def q_b106_0 : ev_H := (bn1030 : e2_Q8)
noncomputable def rs_b106 : e2_Rs := [((12, 9, 2147483647), q_b106_0)]
noncomputable def s_b106 : e2_Sm := (231, as_b106, E_b106, f_b106, rs_b106)
noncomputable def S_b106 : List e2_Sm := []
noncomputable def I_b106 : List e2_In := [(215, 2, e2x_215), (216, 1, e2x_216), (217, 1, e2x_217), (225, 5, e2x_225), (226, 3, e2x_226), (227, 2, e2x_227)]
set_option maxRecDepth 1000000 in
theorem co_b106 : e2_okSB E_b106.length as_b106 f_b106 rs_b106 = true := by decide +kernel
def al_b106_0 : List ev_V := [(2, 83, 0), (0, 2, 0), (11, 2147483648, 2147483656), (11, 0, 4294967295), (1, 5, 4294967296), (9, 0, 0)]
def E_b106_0 : e2_E := [(2147483648, 2147583648, 0, 0), (2147483648, 2147483656, 1, 0), (2147483648, 2147483688, 2, 0), (2147483648, 2147483688, 3, 0), (2147483648, 2147483668, 4, 0), (2147483648, 2147483656, 5, 0)]
noncomputable def h_b106_0 : ev_H := (bn1030 : e2_Q8)
noncomputable def cl_b106_e : List (Nat × e2_S) := [(3, e2_cutL (al_b106_0.set 4 (11, 2147483648, 2147483656)) 5 (E_b106_0.take 5) h_b106_0)]
set_option maxRecDepth 1000000 in
theorem ck_b106_e : e2_run (e2_cal S_b106 I_b106 4000 2) (e2_fin rs_b106) e2x_231 (e2_bpL cl_b106_e) (e2_cutA cl_b106_e) 4000 (e2_seek e2x_231 0) (e2_al 6 as_b106) [] E_b106 f_b106 = true := by decide +kernel
noncomputable def cl_b106_0 : List (Nat × e2_S) := [(3, e2_cutL (al_b106_0.set 4 (13, 13, 2147483656)) 5 (E_b106_0.take 5) h_b106_0)]
set_option maxRecDepth 1000000 in
theorem ck_b106_0 : e2_runM (e2_cal S_b106 I_b106 4000 2) (e2_fin rs_b106) e2x_231 (e2_bpL cl_b106_0) (e2_cutA cl_b106_0) 4000 (e2_seek e2x_231 3) al_b106_0 [] E_b106_0 h_b106_0 = true := by decide +kernel
set_option maxRecDepth 1000000 in
theorem ci_b106_0 : e2_idl 5 (al_b106_0.set 4 (9, 0, 0)) = true := by decide +kernel
set_option maxRecDepth 1000000 in
theorem cj_b106_0 : e2_idh 5 8 h_b106_0 = true := by decide +kernel
theorem cs_b106 (hen : en_ok) (l : Launch) : e2_smOk l 3 s_b106 := by
  refine e2_conG (H := 0) (n := 2) (C := evd_231) (S := S_b106) (I := I_b106) (fuel := 4000) hen ei_231 e2_fz (e2_fa ein_215 (e2_fa ein_216 (e2_fa ein_217 (e2_fa ein_225 (e2_fa ein_226 (e2_fa ein_227 e2_fz)))))) (by decide) co_b106 fun M d _ hC hcall p e R s m args below meth c Q D cA A ads r0 ha hl0 => ?_
  have L_0 : e2_gdM M p l e R s m args below meth c Q D cA A ads r0 3 al_b106_0 [] E_b106_0 h_b106_0 := by
    refine e2_indL (u := 5) (j := 4) (lo := 2147483648) (hi := 2147483656) (b := 5) (dd := 0) hl0 (by decide) rfl rfl (Or.inr ⟨rfl, rfl⟩) rfl ci_b106_0 cj_b106_0 ?_
    intro r_0 k_0 hk_0 hp_0 hs_0 hn_0
    have hl_0 : r_0.length ≤ 6 := hs_0.len rfl
    have ha_0 := ha.ext hp_0
    exact e2_fromM hen ha_0 hcall (e2_cutA_ok (e2_fa (fun al st E h hc => hn_0 al st E h hc) e2_fz)) (hC [3]) (X := e2x_231) ex2_231 3 ck_b106_0
  have EN_0 := e2_entL (u := 5) (j := 4) (lo := 2147483648) (hi := 2147483656) hl0 rfl rfl rfl ci_b106_0 cj_b106_0 L_0
  exact e2_from hen ha hcall (e2_cutA_ok (e2_fa (fun al st E h hc => EN_0 al st E h hc) e2_fz)) (hC [3]) (X := e2x_231) ex2_231 0 ck_b106_e
/-! b107 X10_nextAt -/
def as_b107 : List ev_V := [(2, 83, 0), (0, 3, 0), (11, 2147483648, 2147483656), (11, 0, 4294967295)]
def E_b107 : e2_E := [(2147483648, 2147583648, 0, 0), (2147483648, 2147483656, 1, 0), (2147483648, 2147483688, 2, 0), (2147483648, 2147483688, 3, 0), (2147483648, 2147483668, 4, 0)]
noncomputable def f_b107 : ev_H := (bn1030 : e2_Q8)
noncomputable def q_b107_0 : ev_H := (bn1030 : e2_Q8)
noncomputable def rs_b107 : e2_Rs := [((12, 9, 2147483647), q_b107_0)]
noncomputable def s_b107 : e2_Sm := (231, as_b107, E_b107, f_b107, rs_b107)
noncomputable def S_b107 : List e2_Sm := []
noncomputable def I_b107 : List e2_In := [(215, 2, e2x_215), (216, 1, e2x_216), (217, 1, e2x_217), (225, 5, e2x_225), (226, 3, e2x_226), (227, 2, e2x_227)]
set_option maxRecDepth 1000000 in
theorem co_b107 : e2_okSB E_b107.length as_b107 f_b107 rs_b107 = true := by decide +kernel
def al_b107_0 : List ev_V := [(2, 83, 0), (0, 3, 0), (11, 2147483648, 2147483656), (11, 0, 4294967295), (1, 5, 4294967296), (9, 0, 0)]
def E_b107_0 : e2_E := [(2147483648, 2147583648, 0, 0), (2147483648, 2147483656, 1, 0), (2147483648, 2147483688, 2, 0), (2147483648, 2147483688, 3, 0), (2147483648, 2147483668, 4, 0), (2147483648, 2147483656, 5, 0)]
noncomputable def h_b107_0 : ev_H := (bn1030 : e2_Q8)
noncomputable def cl_b107_e : List (Nat × e2_S) := [(3, e2_cutL (al_b107_0.set 4 (11, 2147483648, 2147483656)) 5 (E_b107_0.take 5) h_b107_0)]
set_option maxRecDepth 1000000 in
theorem ck_b107_e : e2_run (e2_cal S_b107 I_b107 4000 2) (e2_fin rs_b107) e2x_231 (e2_bpL cl_b107_e) (e2_cutA cl_b107_e) 4000 (e2_seek e2x_231 0) (e2_al 6 as_b107) [] E_b107 f_b107 = true := by decide +kernel
noncomputable def cl_b107_0 : List (Nat × e2_S) := [(3, e2_cutL (al_b107_0.set 4 (13, 13, 2147483656)) 5 (E_b107_0.take 5) h_b107_0)]
set_option maxRecDepth 1000000 in
theorem ck_b107_0 : e2_runM (e2_cal S_b107 I_b107 4000 2) (e2_fin rs_b107) e2x_231 (e2_bpL cl_b107_0) (e2_cutA cl_b107_0) 4000 (e2_seek e2x_231 3) al_b107_0 [] E_b107_0 h_b107_0 = true := by decide +kernel
set_option maxRecDepth 1000000 in
theorem ci_b107_0 : e2_idl 5 (al_b107_0.set 4 (9, 0, 0)) = true := by decide +kernel
set_option maxRecDepth 1000000 in
theorem cj_b107_0 : e2_idh 5 8 h_b107_0 = true := by decide +kernel
theorem cs_b107 (hen : en_ok) (l : Launch) : e2_smOk l 3 s_b107 := by
  refine e2_conG (H := 0) (n := 2) (C := evd_231) (S := S_b107) (I := I_b107) (fuel := 4000) hen ei_231 e2_fz (e2_fa ein_215 (e2_fa ein_216 (e2_fa ein_217 (e2_fa ein_225 (e2_fa ein_226 (e2_fa ein_227 e2_fz)))))) (by decide) co_b107 fun M d _ hC hcall p e R s m args below meth c Q D cA A ads r0 ha hl0 => ?_
  have L_0 : e2_gdM M p l e R s m args below meth c Q D cA A ads r0 3 al_b107_0 [] E_b107_0 h_b107_0 := by
    refine e2_indL (u := 5) (j := 4) (lo := 2147483648) (hi := 2147483656) (b := 5) (dd := 0) hl0 (by decide) rfl rfl (Or.inr ⟨rfl, rfl⟩) rfl ci_b107_0 cj_b107_0 ?_
    intro r_0 k_0 hk_0 hp_0 hs_0 hn_0
    have hl_0 : r_0.length ≤ 6 := hs_0.len rfl
    have ha_0 := ha.ext hp_0
    exact e2_fromM hen ha_0 hcall (e2_cutA_ok (e2_fa (fun al st E h hc => hn_0 al st E h hc) e2_fz)) (hC [3]) (X := e2x_231) ex2_231 3 ck_b107_0
  have EN_0 := e2_entL (u := 5) (j := 4) (lo := 2147483648) (hi := 2147483656) hl0 rfl rfl rfl ci_b107_0 cj_b107_0 L_0
  exact e2_from hen ha hcall (e2_cutA_ok (e2_fa (fun al st E h hc => EN_0 al st E h hc) e2_fz)) (hC [3]) (X := e2x_231) ex2_231 0 ck_b107_e
/-! b108 X10_nextAt -/
def as_b108 : List ev_V := [(2, 83, 0), (0, 4, 0), (11, 2147483648, 2147483656), (11, 0, 4294967295)]
def E_b108 : e2_E := [(2147483648, 2147583648, 0, 0), (2147483648, 2147483656, 1, 0), (2147483648, 2147483688, 2, 0), (2147483648, 2147483688, 3, 0), (2147483648, 2147483668, 4, 0)]
noncomputable def f_b108 : ev_H := (bn1030 : e2_Q8)
noncomputable def q_b108_0 : ev_H := (bn1030 : e2_Q8)
noncomputable def rs_b108 : e2_Rs := [((12, 9, 2147483647), q_b108_0)]
noncomputable def s_b108 : e2_Sm := (231, as_b108, E_b108, f_b108, rs_b108)
noncomputable def S_b108 : List e2_Sm := []
noncomputable def I_b108 : List e2_In := [(215, 2, e2x_215), (216, 1, e2x_216), (217, 1, e2x_217), (225, 5, e2x_225), (226, 3, e2x_226), (227, 2, e2x_227)]
set_option maxRecDepth 1000000 in
theorem co_b108 : e2_okSB E_b108.length as_b108 f_b108 rs_b108 = true := by decide +kernel
def al_b108_0 : List ev_V := [(2, 83, 0), (0, 4, 0), (11, 2147483648, 2147483656), (11, 0, 4294967295), (1, 5, 4294967296), (9, 0, 0)]
def E_b108_0 : e2_E := [(2147483648, 2147583648, 0, 0), (2147483648, 2147483656, 1, 0), (2147483648, 2147483688, 2, 0), (2147483648, 2147483688, 3, 0), (2147483648, 2147483668, 4, 0), (2147483648, 2147483656, 5, 0)]
noncomputable def h_b108_0 : ev_H := (bn1030 : e2_Q8)
noncomputable def cl_b108_e : List (Nat × e2_S) := [(3, e2_cutL (al_b108_0.set 4 (11, 2147483648, 2147483656)) 5 (E_b108_0.take 5) h_b108_0)]
set_option maxRecDepth 1000000 in
theorem ck_b108_e : e2_run (e2_cal S_b108 I_b108 4000 2) (e2_fin rs_b108) e2x_231 (e2_bpL cl_b108_e) (e2_cutA cl_b108_e) 4000 (e2_seek e2x_231 0) (e2_al 6 as_b108) [] E_b108 f_b108 = true := by decide +kernel
noncomputable def cl_b108_0 : List (Nat × e2_S) := [(3, e2_cutL (al_b108_0.set 4 (13, 13, 2147483656)) 5 (E_b108_0.take 5) h_b108_0)]
set_option maxRecDepth 1000000 in
theorem ck_b108_0 : e2_runM (e2_cal S_b108 I_b108 4000 2) (e2_fin rs_b108) e2x_231 (e2_bpL cl_b108_0) (e2_cutA cl_b108_0) 4000 (e2_seek e2x_231 3) al_b108_0 [] E_b108_0 h_b108_0 = true := by decide +kernel
set_option maxRecDepth 1000000 in
theorem ci_b108_0 : e2_idl 5 (al_b108_0.set 4 (9, 0, 0)) = true := by decide +kernel
set_option maxRecDepth 1000000 in
theorem cj_b108_0 : e2_idh 5 8 h_b108_0 = true := by decide +kernel
theorem cs_b108 (hen : en_ok) (l : Launch) : e2_smOk l 3 s_b108 := by
  refine e2_conG (H := 0) (n := 2) (C := evd_231) (S := S_b108) (I := I_b108) (fuel := 4000) hen ei_231 e2_fz (e2_fa ein_215 (e2_fa ein_216 (e2_fa ein_217 (e2_fa ein_225 (e2_fa ein_226 (e2_fa ein_227 e2_fz)))))) (by decide) co_b108 fun M d _ hC hcall p e R s m args below meth c Q D cA A ads r0 ha hl0 => ?_
  have L_0 : e2_gdM M p l e R s m args below meth c Q D cA A ads r0 3 al_b108_0 [] E_b108_0 h_b108_0 := by
    refine e2_indL (u := 5) (j := 4) (lo := 2147483648) (hi := 2147483656) (b := 5) (dd := 0) hl0 (by decide) rfl rfl (Or.inr ⟨rfl, rfl⟩) rfl ci_b108_0 cj_b108_0 ?_
    intro r_0 k_0 hk_0 hp_0 hs_0 hn_0
    have hl_0 : r_0.length ≤ 6 := hs_0.len rfl
    have ha_0 := ha.ext hp_0
    exact e2_fromM hen ha_0 hcall (e2_cutA_ok (e2_fa (fun al st E h hc => hn_0 al st E h hc) e2_fz)) (hC [3]) (X := e2x_231) ex2_231 3 ck_b108_0
  have EN_0 := e2_entL (u := 5) (j := 4) (lo := 2147483648) (hi := 2147483656) hl0 rfl rfl rfl ci_b108_0 cj_b108_0 L_0
  exact e2_from hen ha hcall (e2_cutA_ok (e2_fa (fun al st E h hc => EN_0 al st E h hc) e2_fz)) (hC [3]) (X := e2x_231) ex2_231 0 ck_b108_e
/-! b109 X10_nextAt -/
def as_b109 : List ev_V := [(2, 83, 0), (0, 5, 0), (11, 2147483648, 2147483656), (11, 0, 4294967295)]
def E_b109 : e2_E := [(2147483648, 2147583648, 0, 0), (2147483648, 2147483656, 1, 0), (2147483648, 2147483688, 2, 0), (2147483648, 2147483688, 3, 0), (2147483648, 2147483668, 4, 0)]
noncomputable def f_b109 : ev_H := (bn1030 : e2_Q8)
noncomputable def q_b109_0 : ev_H := (bn1030 : e2_Q8)
noncomputable def rs_b109 : e2_Rs := [((12, 9, 2147483647), q_b109_0)]
noncomputable def s_b109 : e2_Sm := (231, as_b109, E_b109, f_b109, rs_b109)
noncomputable def S_b109 : List e2_Sm := []
noncomputable def I_b109 : List e2_In := [(215, 2, e2x_215), (216, 1, e2x_216), (217, 1, e2x_217), (225, 5, e2x_225), (226, 3, e2x_226), (227, 2, e2x_227)]
set_option maxRecDepth 1000000 in
theorem co_b109 : e2_okSB E_b109.length as_b109 f_b109 rs_b109 = true := by decide +kernel
def al_b109_0 : List ev_V := [(2, 83, 0), (0, 5, 0), (11, 2147483648, 2147483656), (11, 0, 4294967295), (1, 5, 4294967296), (9, 0, 0)]
def E_b109_0 : e2_E := [(2147483648, 2147583648, 0, 0), (2147483648, 2147483656, 1, 0), (2147483648, 2147483688, 2, 0), (2147483648, 2147483688, 3, 0), (2147483648, 2147483668, 4, 0), (2147483648, 2147483656, 5, 0)]
noncomputable def h_b109_0 : ev_H := (bn1030 : e2_Q8)
noncomputable def cl_b109_e : List (Nat × e2_S) := [(3, e2_cutL (al_b109_0.set 4 (11, 2147483648, 2147483656)) 5 (E_b109_0.take 5) h_b109_0)]
set_option maxRecDepth 1000000 in
theorem ck_b109_e : e2_run (e2_cal S_b109 I_b109 4000 2) (e2_fin rs_b109) e2x_231 (e2_bpL cl_b109_e) (e2_cutA cl_b109_e) 4000 (e2_seek e2x_231 0) (e2_al 6 as_b109) [] E_b109 f_b109 = true := by decide +kernel
noncomputable def cl_b109_0 : List (Nat × e2_S) := [(3, e2_cutL (al_b109_0.set 4 (13, 13, 2147483656)) 5 (E_b109_0.take 5) h_b109_0)]
set_option maxRecDepth 1000000 in
theorem ck_b109_0 : e2_runM (e2_cal S_b109 I_b109 4000 2) (e2_fin rs_b109) e2x_231 (e2_bpL cl_b109_0) (e2_cutA cl_b109_0) 4000 (e2_seek e2x_231 3) al_b109_0 [] E_b109_0 h_b109_0 = true := by decide +kernel
set_option maxRecDepth 1000000 in
theorem ci_b109_0 : e2_idl 5 (al_b109_0.set 4 (9, 0, 0)) = true := by decide +kernel
set_option maxRecDepth 1000000 in
theorem cj_b109_0 : e2_idh 5 8 h_b109_0 = true := by decide +kernel
theorem cs_b109 (hen : en_ok) (l : Launch) : e2_smOk l 3 s_b109 := by
  refine e2_conG (H := 0) (n := 2) (C := evd_231) (S := S_b109) (I := I_b109) (fuel := 4000) hen ei_231 e2_fz (e2_fa ein_215 (e2_fa ein_216 (e2_fa ein_217 (e2_fa ein_225 (e2_fa ein_226 (e2_fa ein_227 e2_fz)))))) (by decide) co_b109 fun M d _ hC hcall p e R s m args below meth c Q D cA A ads r0 ha hl0 => ?_
  have L_0 : e2_gdM M p l e R s m args below meth c Q D cA A ads r0 3 al_b109_0 [] E_b109_0 h_b109_0 := by
    refine e2_indL (u := 5) (j := 4) (lo := 2147483648) (hi := 2147483656) (b := 5) (dd := 0) hl0 (by decide) rfl rfl (Or.inr ⟨rfl, rfl⟩) rfl ci_b109_0 cj_b109_0 ?_
    intro r_0 k_0 hk_0 hp_0 hs_0 hn_0
    have hl_0 : r_0.length ≤ 6 := hs_0.len rfl
    have ha_0 := ha.ext hp_0
    exact e2_fromM hen ha_0 hcall (e2_cutA_ok (e2_fa (fun al st E h hc => hn_0 al st E h hc) e2_fz)) (hC [3]) (X := e2x_231) ex2_231 3 ck_b109_0
  have EN_0 := e2_entL (u := 5) (j := 4) (lo := 2147483648) (hi := 2147483656) hl0 rfl rfl rfl ci_b109_0 cj_b109_0 L_0
  exact e2_from hen ha hcall (e2_cutA_ok (e2_fa (fun al st E h hc => EN_0 al st E h hc) e2_fz)) (hC [3]) (X := e2x_231) ex2_231 0 ck_b109_e
/-! b110 X10_nextAt -/
def as_b110 : List ev_V := [(2, 83, 0), (0, 6, 0), (11, 2147483648, 2147483656), (11, 0, 4294967295)]
def E_b110 : e2_E := [(2147483648, 2147583648, 0, 0), (2147483648, 2147483656, 1, 0), (2147483648, 2147483688, 2, 0), (2147483648, 2147483688, 3, 0), (2147483648, 2147483668, 4, 0)]
noncomputable def f_b110 : ev_H := (bn1030 : e2_Q8)
noncomputable def q_b110_0 : ev_H := (bn1030 : e2_Q8)
noncomputable def rs_b110 : e2_Rs := [((12, 9, 2147483647), q_b110_0)]
noncomputable def s_b110 : e2_Sm := (231, as_b110, E_b110, f_b110, rs_b110)
noncomputable def S_b110 : List e2_Sm := []
noncomputable def I_b110 : List e2_In := [(215, 2, e2x_215), (216, 1, e2x_216), (217, 1, e2x_217), (225, 5, e2x_225), (226, 3, e2x_226), (227, 2, e2x_227)]
set_option maxRecDepth 1000000 in
theorem co_b110 : e2_okSB E_b110.length as_b110 f_b110 rs_b110 = true := by decide +kernel
def al_b110_0 : List ev_V := [(2, 83, 0), (0, 6, 0), (11, 2147483648, 2147483656), (11, 0, 4294967295), (1, 5, 4294967296), (9, 0, 0)]
def E_b110_0 : e2_E := [(2147483648, 2147583648, 0, 0), (2147483648, 2147483656, 1, 0), (2147483648, 2147483688, 2, 0), (2147483648, 2147483688, 3, 0), (2147483648, 2147483668, 4, 0), (2147483648, 2147483656, 5, 0)]
noncomputable def h_b110_0 : ev_H := (bn1030 : e2_Q8)
noncomputable def cl_b110_e : List (Nat × e2_S) := [(3, e2_cutL (al_b110_0.set 4 (11, 2147483648, 2147483656)) 5 (E_b110_0.take 5) h_b110_0)]
set_option maxRecDepth 1000000 in
theorem ck_b110_e : e2_run (e2_cal S_b110 I_b110 4000 2) (e2_fin rs_b110) e2x_231 (e2_bpL cl_b110_e) (e2_cutA cl_b110_e) 4000 (e2_seek e2x_231 0) (e2_al 6 as_b110) [] E_b110 f_b110 = true := by decide +kernel
noncomputable def cl_b110_0 : List (Nat × e2_S) := [(3, e2_cutL (al_b110_0.set 4 (13, 13, 2147483656)) 5 (E_b110_0.take 5) h_b110_0)]
set_option maxRecDepth 1000000 in
theorem ck_b110_0 : e2_runM (e2_cal S_b110 I_b110 4000 2) (e2_fin rs_b110) e2x_231 (e2_bpL cl_b110_0) (e2_cutA cl_b110_0) 4000 (e2_seek e2x_231 3) al_b110_0 [] E_b110_0 h_b110_0 = true := by decide +kernel
set_option maxRecDepth 1000000 in
theorem ci_b110_0 : e2_idl 5 (al_b110_0.set 4 (9, 0, 0)) = true := by decide +kernel
set_option maxRecDepth 1000000 in
theorem cj_b110_0 : e2_idh 5 8 h_b110_0 = true := by decide +kernel
theorem cs_b110 (hen : en_ok) (l : Launch) : e2_smOk l 3 s_b110 := by
  refine e2_conG (H := 0) (n := 2) (C := evd_231) (S := S_b110) (I := I_b110) (fuel := 4000) hen ei_231 e2_fz (e2_fa ein_215 (e2_fa ein_216 (e2_fa ein_217 (e2_fa ein_225 (e2_fa ein_226 (e2_fa ein_227 e2_fz)))))) (by decide) co_b110 fun M d _ hC hcall p e R s m args below meth c Q D cA A ads r0 ha hl0 => ?_
  have L_0 : e2_gdM M p l e R s m args below meth c Q D cA A ads r0 3 al_b110_0 [] E_b110_0 h_b110_0 := by
    refine e2_indL (u := 5) (j := 4) (lo := 2147483648) (hi := 2147483656) (b := 5) (dd := 0) hl0 (by decide) rfl rfl (Or.inr ⟨rfl, rfl⟩) rfl ci_b110_0 cj_b110_0 ?_
    intro r_0 k_0 hk_0 hp_0 hs_0 hn_0
    have hl_0 : r_0.length ≤ 6 := hs_0.len rfl
    have ha_0 := ha.ext hp_0
    exact e2_fromM hen ha_0 hcall (e2_cutA_ok (e2_fa (fun al st E h hc => hn_0 al st E h hc) e2_fz)) (hC [3]) (X := e2x_231) ex2_231 3 ck_b110_0
  have EN_0 := e2_entL (u := 5) (j := 4) (lo := 2147483648) (hi := 2147483656) hl0 rfl rfl rfl ci_b110_0 cj_b110_0 L_0
  exact e2_from hen ha hcall (e2_cutA_ok (e2_fa (fun al st E h hc => EN_0 al st E h hc) e2_fz)) (hC [3]) (X := e2x_231) ex2_231 0 ck_b110_e
/-! b111 X10_nextAt -/
def as_b111 : List ev_V := [(2, 83, 0), (0, 7, 0), (11, 2147483648, 2147483656), (11, 0, 4294967295)]
def E_b111 : e2_E := [(2147483648, 2147583648, 0, 0), (2147483648, 2147483656, 1, 0), (2147483648, 2147483688, 2, 0), (2147483648, 2147483688, 3, 0), (2147483648, 2147483668, 4, 0)]
noncomputable def f_b111 : ev_H := (bn1030 : e2_Q8)
noncomputable def q_b111_0 : ev_H := (bn1030 : e2_Q8)
noncomputable def rs_b111 : e2_Rs := [((12, 9, 2147483647), q_b111_0)]
noncomputable def s_b111 : e2_Sm := (231, as_b111, E_b111, f_b111, rs_b111)
noncomputable def S_b111 : List e2_Sm := []
noncomputable def I_b111 : List e2_In := [(215, 2, e2x_215), (216, 1, e2x_216), (217, 1, e2x_217), (225, 5, e2x_225), (226, 3, e2x_226), (227, 2, e2x_227)]
set_option maxRecDepth 1000000 in
theorem co_b111 : e2_okSB E_b111.length as_b111 f_b111 rs_b111 = true := by decide +kernel
def al_b111_0 : List ev_V := [(2, 83, 0), (0, 7, 0), (11, 2147483648, 2147483656), (11, 0, 4294967295), (1, 5, 4294967296), (9, 0, 0)]
def E_b111_0 : e2_E := [(2147483648, 2147583648, 0, 0), (2147483648, 2147483656, 1, 0), (2147483648, 2147483688, 2, 0), (2147483648, 2147483688, 3, 0), (2147483648, 2147483668, 4, 0), (2147483648, 2147483656, 5, 0)]
noncomputable def h_b111_0 : ev_H := (bn1030 : e2_Q8)
noncomputable def cl_b111_e : List (Nat × e2_S) := [(3, e2_cutL (al_b111_0.set 4 (11, 2147483648, 2147483656)) 5 (E_b111_0.take 5) h_b111_0)]
set_option maxRecDepth 1000000 in
theorem ck_b111_e : e2_run (e2_cal S_b111 I_b111 4000 2) (e2_fin rs_b111) e2x_231 (e2_bpL cl_b111_e) (e2_cutA cl_b111_e) 4000 (e2_seek e2x_231 0) (e2_al 6 as_b111) [] E_b111 f_b111 = true := by decide +kernel
noncomputable def cl_b111_0 : List (Nat × e2_S) := [(3, e2_cutL (al_b111_0.set 4 (13, 13, 2147483656)) 5 (E_b111_0.take 5) h_b111_0)]
set_option maxRecDepth 1000000 in
theorem ck_b111_0 : e2_runM (e2_cal S_b111 I_b111 4000 2) (e2_fin rs_b111) e2x_231 (e2_bpL cl_b111_0) (e2_cutA cl_b111_0) 4000 (e2_seek e2x_231 3) al_b111_0 [] E_b111_0 h_b111_0 = true := by decide +kernel
set_option maxRecDepth 1000000 in
theorem ci_b111_0 : e2_idl 5 (al_b111_0.set 4 (9, 0, 0)) = true := by decide +kernel
set_option maxRecDepth 1000000 in
theorem cj_b111_0 : e2_idh 5 8 h_b111_0 = true := by decide +kernel
theorem cs_b111 (hen : en_ok) (l : Launch) : e2_smOk l 3 s_b111 := by
  refine e2_conG (H := 0) (n := 2) (C := evd_231) (S := S_b111) (I := I_b111) (fuel := 4000) hen ei_231 e2_fz (e2_fa ein_215 (e2_fa ein_216 (e2_fa ein_217 (e2_fa ein_225 (e2_fa ein_226 (e2_fa ein_227 e2_fz)))))) (by decide) co_b111 fun M d _ hC hcall p e R s m args below meth c Q D cA A ads r0 ha hl0 => ?_
  have L_0 : e2_gdM M p l e R s m args below meth c Q D cA A ads r0 3 al_b111_0 [] E_b111_0 h_b111_0 := by
    refine e2_indL (u := 5) (j := 4) (lo := 2147483648) (hi := 2147483656) (b := 5) (dd := 0) hl0 (by decide) rfl rfl (Or.inr ⟨rfl, rfl⟩) rfl ci_b111_0 cj_b111_0 ?_
    intro r_0 k_0 hk_0 hp_0 hs_0 hn_0
    have hl_0 : r_0.length ≤ 6 := hs_0.len rfl
    have ha_0 := ha.ext hp_0
    exact e2_fromM hen ha_0 hcall (e2_cutA_ok (e2_fa (fun al st E h hc => hn_0 al st E h hc) e2_fz)) (hC [3]) (X := e2x_231) ex2_231 3 ck_b111_0
  have EN_0 := e2_entL (u := 5) (j := 4) (lo := 2147483648) (hi := 2147483656) hl0 rfl rfl rfl ci_b111_0 cj_b111_0 L_0
  exact e2_from hen ha hcall (e2_cutA_ok (e2_fa (fun al st E h hc => EN_0 al st E h hc) e2_fz)) (hC [3]) (X := e2x_231) ex2_231 0 ck_b111_e
/-! b112 X10_nextAt -/
def as_b112 : List ev_V := [(2, 83, 0), (0, 8, 0), (11, 2147483648, 2147483656), (11, 0, 4294967295)]
def E_b112 : e2_E := [(2147483648, 2147583648, 0, 0), (2147483648, 2147483656, 1, 0), (2147483648, 2147483688, 2, 0), (2147483648, 2147483688, 3, 0), (2147483648, 2147483668, 4, 0)]
noncomputable def f_b112 : ev_H := (bn1030 : e2_Q8)
noncomputable def q_b112_0 : ev_H := (bn1030 : e2_Q8)
noncomputable def rs_b112 : e2_Rs := [((12, 9, 2147483647), q_b112_0)]
noncomputable def s_b112 : e2_Sm := (231, as_b112, E_b112, f_b112, rs_b112)
noncomputable def S_b112 : List e2_Sm := []
noncomputable def I_b112 : List e2_In := [(215, 2, e2x_215), (216, 1, e2x_216), (217, 1, e2x_217), (225, 5, e2x_225), (226, 3, e2x_226), (227, 2, e2x_227)]
set_option maxRecDepth 1000000 in
theorem co_b112 : e2_okSB E_b112.length as_b112 f_b112 rs_b112 = true := by decide +kernel
def al_b112_0 : List ev_V := [(2, 83, 0), (0, 8, 0), (11, 2147483648, 2147483656), (11, 0, 4294967295), (1, 5, 4294967296), (9, 0, 0)]
def E_b112_0 : e2_E := [(2147483648, 2147583648, 0, 0), (2147483648, 2147483656, 1, 0), (2147483648, 2147483688, 2, 0), (2147483648, 2147483688, 3, 0), (2147483648, 2147483668, 4, 0), (2147483648, 2147483656, 5, 0)]
noncomputable def h_b112_0 : ev_H := (bn1030 : e2_Q8)
noncomputable def cl_b112_e : List (Nat × e2_S) := [(3, e2_cutL (al_b112_0.set 4 (11, 2147483648, 2147483656)) 5 (E_b112_0.take 5) h_b112_0)]
set_option maxRecDepth 1000000 in
theorem ck_b112_e : e2_run (e2_cal S_b112 I_b112 4000 2) (e2_fin rs_b112) e2x_231 (e2_bpL cl_b112_e) (e2_cutA cl_b112_e) 4000 (e2_seek e2x_231 0) (e2_al 6 as_b112) [] E_b112 f_b112 = true := by decide +kernel
noncomputable def cl_b112_0 : List (Nat × e2_S) := [(3, e2_cutL (al_b112_0.set 4 (13, 13, 2147483656)) 5 (E_b112_0.take 5) h_b112_0)]
set_option maxRecDepth 1000000 in
theorem ck_b112_0 : e2_runM (e2_cal S_b112 I_b112 4000 2) (e2_fin rs_b112) e2x_231 (e2_bpL cl_b112_0) (e2_cutA cl_b112_0) 4000 (e2_seek e2x_231 3) al_b112_0 [] E_b112_0 h_b112_0 = true := by decide +kernel
set_option maxRecDepth 1000000 in
theorem ci_b112_0 : e2_idl 5 (al_b112_0.set 4 (9, 0, 0)) = true := by decide +kernel
set_option maxRecDepth 1000000 in
theorem cj_b112_0 : e2_idh 5 8 h_b112_0 = true := by decide +kernel
theorem cs_b112 (hen : en_ok) (l : Launch) : e2_smOk l 3 s_b112 := by
  refine e2_conG (H := 0) (n := 2) (C := evd_231) (S := S_b112) (I := I_b112) (fuel := 4000) hen ei_231 e2_fz (e2_fa ein_215 (e2_fa ein_216 (e2_fa ein_217 (e2_fa ein_225 (e2_fa ein_226 (e2_fa ein_227 e2_fz)))))) (by decide) co_b112 fun M d _ hC hcall p e R s m args below meth c Q D cA A ads r0 ha hl0 => ?_
  have L_0 : e2_gdM M p l e R s m args below meth c Q D cA A ads r0 3 al_b112_0 [] E_b112_0 h_b112_0 := by
    refine e2_indL (u := 5) (j := 4) (lo := 2147483648) (hi := 2147483656) (b := 5) (dd := 0) hl0 (by decide) rfl rfl (Or.inr ⟨rfl, rfl⟩) rfl ci_b112_0 cj_b112_0 ?_
    intro r_0 k_0 hk_0 hp_0 hs_0 hn_0
    have hl_0 : r_0.length ≤ 6 := hs_0.len rfl
    have ha_0 := ha.ext hp_0
    exact e2_fromM hen ha_0 hcall (e2_cutA_ok (e2_fa (fun al st E h hc => hn_0 al st E h hc) e2_fz)) (hC [3]) (X := e2x_231) ex2_231 3 ck_b112_0
  have EN_0 := e2_entL (u := 5) (j := 4) (lo := 2147483648) (hi := 2147483656) hl0 rfl rfl rfl ci_b112_0 cj_b112_0 L_0
  exact e2_from hen ha hcall (e2_cutA_ok (e2_fa (fun al st E h hc => EN_0 al st E h hc) e2_fz)) (hC [3]) (X := e2x_231) ex2_231 0 ck_b112_e
/-! b113 X10_nextAt -/
def as_b113 : List ev_V := [(2, 83, 0), (0, 9, 0), (11, 2147483648, 2147483656), (11, 0, 4294967295)]
def E_b113 : e2_E := [(2147483648, 2147583648, 0, 0), (2147483648, 2147483656, 1, 0), (2147483648, 2147483688, 2, 0), (2147483648, 2147483688, 3, 0), (2147483648, 2147483668, 4, 0)]
noncomputable def f_b113 : ev_H := (bn1030 : e2_Q8)
noncomputable def q_b113_0 : ev_H := (bn1030 : e2_Q8)
noncomputable def rs_b113 : e2_Rs := [((12, 9, 2147483647), q_b113_0)]
noncomputable def s_b113 : e2_Sm := (231, as_b113, E_b113, f_b113, rs_b113)
noncomputable def S_b113 : List e2_Sm := []
noncomputable def I_b113 : List e2_In := [(215, 2, e2x_215), (216, 1, e2x_216), (217, 1, e2x_217), (225, 5, e2x_225), (226, 3, e2x_226), (227, 2, e2x_227)]
set_option maxRecDepth 1000000 in
theorem co_b113 : e2_okSB E_b113.length as_b113 f_b113 rs_b113 = true := by decide +kernel
def al_b113_0 : List ev_V := [(2, 83, 0), (0, 9, 0), (11, 2147483648, 2147483656), (11, 0, 4294967295), (1, 5, 4294967296), (9, 0, 0)]
def E_b113_0 : e2_E := [(2147483648, 2147583648, 0, 0), (2147483648, 2147483656, 1, 0), (2147483648, 2147483688, 2, 0), (2147483648, 2147483688, 3, 0), (2147483648, 2147483668, 4, 0), (2147483648, 2147483656, 5, 0)]
noncomputable def h_b113_0 : ev_H := (bn1030 : e2_Q8)
noncomputable def cl_b113_e : List (Nat × e2_S) := [(3, e2_cutL (al_b113_0.set 4 (11, 2147483648, 2147483656)) 5 (E_b113_0.take 5) h_b113_0)]
set_option maxRecDepth 1000000 in
theorem ck_b113_e : e2_run (e2_cal S_b113 I_b113 4000 2) (e2_fin rs_b113) e2x_231 (e2_bpL cl_b113_e) (e2_cutA cl_b113_e) 4000 (e2_seek e2x_231 0) (e2_al 6 as_b113) [] E_b113 f_b113 = true := by decide +kernel
noncomputable def cl_b113_0 : List (Nat × e2_S) := [(3, e2_cutL (al_b113_0.set 4 (13, 13, 2147483656)) 5 (E_b113_0.take 5) h_b113_0)]
set_option maxRecDepth 1000000 in
theorem ck_b113_0 : e2_runM (e2_cal S_b113 I_b113 4000 2) (e2_fin rs_b113) e2x_231 (e2_bpL cl_b113_0) (e2_cutA cl_b113_0) 4000 (e2_seek e2x_231 3) al_b113_0 [] E_b113_0 h_b113_0 = true := by decide +kernel
set_option maxRecDepth 1000000 in
theorem ci_b113_0 : e2_idl 5 (al_b113_0.set 4 (9, 0, 0)) = true := by decide +kernel
set_option maxRecDepth 1000000 in
theorem cj_b113_0 : e2_idh 5 8 h_b113_0 = true := by decide +kernel
theorem cs_b113 (hen : en_ok) (l : Launch) : e2_smOk l 3 s_b113 := by
  refine e2_conG (H := 0) (n := 2) (C := evd_231) (S := S_b113) (I := I_b113) (fuel := 4000) hen ei_231 e2_fz (e2_fa ein_215 (e2_fa ein_216 (e2_fa ein_217 (e2_fa ein_225 (e2_fa ein_226 (e2_fa ein_227 e2_fz)))))) (by decide) co_b113 fun M d _ hC hcall p e R s m args below meth c Q D cA A ads r0 ha hl0 => ?_
  have L_0 : e2_gdM M p l e R s m args below meth c Q D cA A ads r0 3 al_b113_0 [] E_b113_0 h_b113_0 := by
    refine e2_indL (u := 5) (j := 4) (lo := 2147483648) (hi := 2147483656) (b := 5) (dd := 0) hl0 (by decide) rfl rfl (Or.inr ⟨rfl, rfl⟩) rfl ci_b113_0 cj_b113_0 ?_
    intro r_0 k_0 hk_0 hp_0 hs_0 hn_0
    have hl_0 : r_0.length ≤ 6 := hs_0.len rfl
    have ha_0 := ha.ext hp_0
    exact e2_fromM hen ha_0 hcall (e2_cutA_ok (e2_fa (fun al st E h hc => hn_0 al st E h hc) e2_fz)) (hC [3]) (X := e2x_231) ex2_231 3 ck_b113_0
  have EN_0 := e2_entL (u := 5) (j := 4) (lo := 2147483648) (hi := 2147483656) hl0 rfl rfl rfl ci_b113_0 cj_b113_0 L_0
  exact e2_from hen ha hcall (e2_cutA_ok (e2_fa (fun al st E h hc => EN_0 al st E h hc) e2_fz)) (hC [3]) (X := e2x_231) ex2_231 0 ck_b113_e
/-! b114 X10_read -/
def as_b114 : List ev_V := [(2, 83, 0), (11, 0, 4294967295)]
def E_b114 : e2_E := [(2147483648, 2147583648, 0, 0), (2147483648, 2147483648, 1, 0), (2147483648, 2147483688, 2, 0), (2147483648, 2147483688, 3, 0)]
def bn1031 : e2_Q7 := (bn488, bn457)
def bn1032 : e2_Q8 := (bn477, bn1031)
noncomputable def f_b114 : ev_H := (bn1032 : e2_Q8)
def bc191 : ev_C := (10, [(0, 0, 0), (2, 88, 0), (2, 115, 0), (2, 114, 0), (2, 86, 0), (2, 112, 0), (11, 2147483648, 2147483688), (2, 118, 0), (2, 120, 0), (2, 131, 0), (2, 91, 0), (0, 0, 0), (2, 123, 0), (11, 2147483648, 2147483649), (11, 2147483648, 2147485248), (2, 87, 0), (2, 84, 0), (2, 122, 0), (2, 100, 0), (2, 132, 0), (11, 2147483648, 2147483668), (11, 2147483648, 2147485248), (1, 0, 4294967296), (11, 0, 4294967295), (11, 2147483648, 2147485248), (2, 93, 0), (2, 104, 0), (11, 2147483648, 2147483678), (2, 89, 0), (2, 92, 0), (2, 119, 0), (2, 90, 0), (2, 94, 0), (2, 103, 0), (0, 0, 0), (11, 0, 4294967295), (11, 0, 4294967295), (11, 2147483648, 2147485249), (11, 2147483648, 2147483653), (11, 2147483648, 2147483668), (2, 85, 0), (11, 2147483648, 2147493647), (5, 0, 0), (2, 95, 0), (2, 96, 0), (2, 97, 0), (2, 98, 0), (2, 99, 0), (2, 101, 0), (2, 102, 0), (2, 105, 0), (2, 106, 0), (2, 107, 0), (2, 108, 0), (2, 109, 0), (2, 110, 0), (2, 111, 0), (11, 2147483648, 2147484768), (11, 2147482048, 2147483655), (11, 2147483648, 2147483738), (11, 2147483648, 2147483678), (11, 0, 4294967295), (11, 0, 4294967295), (11, 0, 4294967295), (11, 0, 4294967295), (11, 0, 4294967295), (2, 113, 0), (2, 116, 0), (2, 117, 0), (2, 121, 0), (11, 0, 4294967295), (11, 0, 4294967295), (2, 124, 0), (2, 125, 0), (11, 0, 4294967295), (2, 126, 0), (2, 127, 0), (2, 128, 0), (2, 129, 0), (2, 130, 0)])
def bn1033 : e2_Q1 := (bc191, bc3)
def bn1034 : e2_Q2 := (bn197, bn1033)
def bn1035 : e2_Q3 := (bn1034, bn447)
def bn1036 : e2_Q4 := (bn196, bn1035)
def bn1037 : e2_Q5 := (bn1036, bn219)
def bn1038 : e2_Q6 := (bn1037, bn251)
def bn1039 : e2_Q7 := (bn488, bn1038)
def bn1040 : e2_Q8 := (bn477, bn1039)
noncomputable def q_b114_0 : ev_H := (bn1040 : e2_Q8)
noncomputable def rs_b114 : e2_Rs := [((11, 2147483647, 2147483648), q_b114_0)]
noncomputable def s_b114 : e2_Sm := (230, as_b114, E_b114, f_b114, rs_b114)
noncomputable def S_b114 : List e2_Sm := [s_b44, s_b45, s_b46, s_b47, s_b48, s_b49, s_b50, s_b51, s_b52, s_b53, s_b54, s_b55, s_b56, s_b57, s_b58, s_b59, s_b60, s_b61, s_b62, s_b63]
noncomputable def I_b114 : List e2_In := [(216, 1, e2x_216), (217, 1, e2x_217), (227, 2, e2x_227)]
noncomputable def Eb_b94 : e2_E := [(2147483648, 2147583648, 0, 0), (2147483648, 2147483656, 1, 0), (2147483648, 2147483688, 2, 0), (2147483648, 2147483688, 3, 0)]
set_option maxRecDepth 1000000 in
theorem cog_b94 : e2_okGB 4 83 11 as_b94 f_b94 rs_b94 = true := by decide +kernel
noncomputable def Eb_b95 : e2_E := [(2147483648, 2147583648, 0, 0), (2147483648, 2147483656, 1, 0), (2147483648, 2147483688, 2, 0), (2147483648, 2147483688, 3, 0)]
set_option maxRecDepth 1000000 in
theorem cog_b95 : e2_okGB 4 83 11 as_b95 f_b95 rs_b95 = true := by decide +kernel
noncomputable def Eb_b96 : e2_E := [(2147483648, 2147583648, 0, 0), (2147483648, 2147483656, 1, 0), (2147483648, 2147483688, 2, 0), (2147483648, 2147483688, 3, 0)]
set_option maxRecDepth 1000000 in
theorem cog_b96 : e2_okGB 4 83 11 as_b96 f_b96 rs_b96 = true := by decide +kernel
noncomputable def Eb_b97 : e2_E := [(2147483648, 2147583648, 0, 0), (2147483648, 2147483656, 1, 0), (2147483648, 2147483688, 2, 0), (2147483648, 2147483688, 3, 0)]
set_option maxRecDepth 1000000 in
theorem cog_b97 : e2_okGB 4 83 11 as_b97 f_b97 rs_b97 = true := by decide +kernel
noncomputable def Eb_b98 : e2_E := [(2147483648, 2147583648, 0, 0), (2147483648, 2147483656, 1, 0), (2147483648, 2147483688, 2, 0), (2147483648, 2147483688, 3, 0)]
set_option maxRecDepth 1000000 in
theorem cog_b98 : e2_okGB 4 83 11 as_b98 f_b98 rs_b98 = true := by decide +kernel
noncomputable def Eb_b99 : e2_E := [(2147483648, 2147583648, 0, 0), (2147483648, 2147483656, 1, 0), (2147483648, 2147483688, 2, 0), (2147483648, 2147483688, 3, 0)]
set_option maxRecDepth 1000000 in
theorem cog_b99 : e2_okGB 4 83 11 as_b99 f_b99 rs_b99 = true := by decide +kernel
noncomputable def Eb_b100 : e2_E := [(2147483648, 2147583648, 0, 0), (2147483648, 2147483656, 1, 0), (2147483648, 2147483688, 2, 0), (2147483648, 2147483688, 3, 0)]
set_option maxRecDepth 1000000 in
theorem cog_b100 : e2_okGB 4 83 11 as_b100 f_b100 rs_b100 = true := by decide +kernel
noncomputable def Eb_b101 : e2_E := [(2147483648, 2147583648, 0, 0), (2147483648, 2147483656, 1, 0), (2147483648, 2147483688, 2, 0), (2147483648, 2147483688, 3, 0)]
set_option maxRecDepth 1000000 in
theorem cog_b101 : e2_okGB 4 83 11 as_b101 f_b101 rs_b101 = true := by decide +kernel
noncomputable def Eb_b102 : e2_E := [(2147483648, 2147583648, 0, 0), (2147483648, 2147483656, 1, 0), (2147483648, 2147483688, 2, 0), (2147483648, 2147483688, 3, 0)]
set_option maxRecDepth 1000000 in
theorem cog_b102 : e2_okGB 4 83 11 as_b102 f_b102 rs_b102 = true := by decide +kernel
noncomputable def Eb_b103 : e2_E := [(2147483648, 2147583648, 0, 0), (2147483648, 2147483656, 1, 0), (2147483648, 2147483688, 2, 0), (2147483648, 2147483688, 3, 0)]
set_option maxRecDepth 1000000 in
theorem cog_b103 : e2_okGB 4 83 11 as_b103 f_b103 rs_b103 = true := by decide +kernel
noncomputable def Eb_b104 : e2_E := [(2147483648, 2147583648, 0, 0), (2147483648, 2147483656, 1, 0), (2147483648, 2147483688, 2, 0), (2147483648, 2147483688, 3, 0)]
set_option maxRecDepth 1000000 in
theorem cog_b104 : e2_okGB 4 83 11 as_b104 f_b104 rs_b104 = true := by decide +kernel
noncomputable def Eb_b105 : e2_E := [(2147483648, 2147583648, 0, 0), (2147483648, 2147483656, 1, 0), (2147483648, 2147483688, 2, 0), (2147483648, 2147483688, 3, 0)]
set_option maxRecDepth 1000000 in
theorem cog_b105 : e2_okGB 4 83 11 as_b105 f_b105 rs_b105 = true := by decide +kernel
noncomputable def Eb_b106 : e2_E := [(2147483648, 2147583648, 0, 0), (2147483648, 2147483656, 1, 0), (2147483648, 2147483688, 2, 0), (2147483648, 2147483688, 3, 0)]
set_option maxRecDepth 1000000 in
theorem cog_b106 : e2_okGB 4 83 11 as_b106 f_b106 rs_b106 = true := by decide +kernel
noncomputable def Eb_b107 : e2_E := [(2147483648, 2147583648, 0, 0), (2147483648, 2147483656, 1, 0), (2147483648, 2147483688, 2, 0), (2147483648, 2147483688, 3, 0)]
set_option maxRecDepth 1000000 in
theorem cog_b107 : e2_okGB 4 83 11 as_b107 f_b107 rs_b107 = true := by decide +kernel
noncomputable def Eb_b108 : e2_E := [(2147483648, 2147583648, 0, 0), (2147483648, 2147483656, 1, 0), (2147483648, 2147483688, 2, 0), (2147483648, 2147483688, 3, 0)]
set_option maxRecDepth 1000000 in
theorem cog_b108 : e2_okGB 4 83 11 as_b108 f_b108 rs_b108 = true := by decide +kernel
noncomputable def Eb_b109 : e2_E := [(2147483648, 2147583648, 0, 0), (2147483648, 2147483656, 1, 0), (2147483648, 2147483688, 2, 0), (2147483648, 2147483688, 3, 0)]
set_option maxRecDepth 1000000 in
theorem cog_b109 : e2_okGB 4 83 11 as_b109 f_b109 rs_b109 = true := by decide +kernel
noncomputable def Eb_b110 : e2_E := [(2147483648, 2147583648, 0, 0), (2147483648, 2147483656, 1, 0), (2147483648, 2147483688, 2, 0), (2147483648, 2147483688, 3, 0)]
set_option maxRecDepth 1000000 in
theorem cog_b110 : e2_okGB 4 83 11 as_b110 f_b110 rs_b110 = true := by decide +kernel
noncomputable def Eb_b111 : e2_E := [(2147483648, 2147583648, 0, 0), (2147483648, 2147483656, 1, 0), (2147483648, 2147483688, 2, 0), (2147483648, 2147483688, 3, 0)]
set_option maxRecDepth 1000000 in
theorem cog_b111 : e2_okGB 4 83 11 as_b111 f_b111 rs_b111 = true := by decide +kernel
noncomputable def Eb_b112 : e2_E := [(2147483648, 2147583648, 0, 0), (2147483648, 2147483656, 1, 0), (2147483648, 2147483688, 2, 0), (2147483648, 2147483688, 3, 0)]
set_option maxRecDepth 1000000 in
theorem cog_b112 : e2_okGB 4 83 11 as_b112 f_b112 rs_b112 = true := by decide +kernel
noncomputable def Eb_b113 : e2_E := [(2147483648, 2147583648, 0, 0), (2147483648, 2147483656, 1, 0), (2147483648, 2147483688, 2, 0), (2147483648, 2147483688, 3, 0)]
set_option maxRecDepth 1000000 in
theorem cog_b113 : e2_okGB 4 83 11 as_b113 f_b113 rs_b113 = true := by decide +kernel
set_option maxRecDepth 1000000 in
theorem co_b114 : e2_okSB E_b114.length as_b114 f_b114 rs_b114 = true := by decide +kernel
def al_b114_21 : List ev_V := [(2, 83, 0), (11, 0, 4294967295), (1, 4, 4294967296), (9, 0, 0), (9, 0, 0)]
def E_b114_21 : e2_E := [(2147483648, 2147583648, 0, 0), (2147483648, 2147483648, 1, 0), (2147483648, 2147483688, 2, 0), (2147483648, 2147483688, 3, 0), (2147483648, 2147483657, 4, 0)]
noncomputable def h_b114_21 : ev_H := (bn1032 : e2_Q8)
def al_b114_22 : List ev_V := [(2, 83, 0), (11, 0, 4294967295), (1, 4, 4294967296), (9, 0, 0), (9, 0, 0)]
def E_b114_22 : e2_E := [(2147483648, 2147583648, 0, 0), (2147483648, 2147483648, 1, 0), (2147483648, 2147483688, 2, 0), (2147483648, 2147483688, 3, 0), (2147483647, 2147483667, 4, 0)]
noncomputable def h_b114_22 : ev_H := (bn1032 : e2_Q8)
def al_b114_23 : List ev_V := [(2, 83, 0), (11, 0, 4294967295), (1, 4, 4294967296), (1, 5, 4294967296), (9, 0, 0)]
def E_b114_23 : e2_E := [(2147483648, 2147583648, 0, 0), (2147483648, 2147483648, 1, 0), (2147483648, 2147483688, 2, 0), (2147483648, 2147483688, 3, 0), (2147483648, 2147483667, 4, 0), (2147483648, 2147483657, 5, 0)]
noncomputable def h_b114_23 : ev_H := (bn1032 : e2_Q8)
noncomputable def h_b114_0 : ev_H := (bn1040 : e2_Q8)
noncomputable def h_b114_1 : ev_H := (bn1040 : e2_Q8)
noncomputable def h_b114_2 : ev_H := (bn1040 : e2_Q8)
noncomputable def h_b114_3 : ev_H := (bn1040 : e2_Q8)
noncomputable def h_b114_4 : ev_H := (bn1040 : e2_Q8)
noncomputable def h_b114_5 : ev_H := (bn1040 : e2_Q8)
noncomputable def h_b114_6 : ev_H := (bn1040 : e2_Q8)
noncomputable def h_b114_7 : ev_H := (bn1040 : e2_Q8)
noncomputable def h_b114_8 : ev_H := (bn1040 : e2_Q8)
noncomputable def h_b114_9 : ev_H := (bn1040 : e2_Q8)
noncomputable def h_b114_10 : ev_H := (bn1040 : e2_Q8)
noncomputable def h_b114_11 : ev_H := (bn1040 : e2_Q8)
noncomputable def h_b114_12 : ev_H := (bn1040 : e2_Q8)
noncomputable def h_b114_13 : ev_H := (bn1040 : e2_Q8)
noncomputable def h_b114_14 : ev_H := (bn1040 : e2_Q8)
noncomputable def h_b114_15 : ev_H := (bn1040 : e2_Q8)
noncomputable def h_b114_16 : ev_H := (bn1040 : e2_Q8)
noncomputable def h_b114_17 : ev_H := (bn1040 : e2_Q8)
noncomputable def h_b114_18 : ev_H := (bn1040 : e2_Q8)
noncomputable def h_b114_19 : ev_H := (bn1040 : e2_Q8)
noncomputable def h_b114_20 : ev_H := (bn1040 : e2_Q8)
noncomputable def cu_b114_120 : List e2_Cu := [([(2, 83, 0), (11, 0, 4294967295), (0, 0, 0), (0, 8, 0), (9, 0, 0)], [(2147483648, 2147583648, 0, 0), (2147483648, 2147483648, 1, 0), (2147483648, 2147483688, 2, 0), (2147483648, 2147483688, 3, 0)], h_b114_0),
  ([(2, 83, 0), (11, 0, 4294967295), (0, 1, 0), (0, 8, 0), (0, 4294967295, 0)], [(2147483648, 2147583648, 0, 0), (2147483648, 2147483648, 1, 0), (2147483648, 2147483688, 2, 0), (2147483648, 2147483688, 3, 0)], h_b114_1),
  ([(2, 83, 0), (11, 0, 4294967295), (0, 2, 0), (0, 8, 0), (0, 4294967295, 0)], [(2147483648, 2147583648, 0, 0), (2147483648, 2147483648, 1, 0), (2147483648, 2147483688, 2, 0), (2147483648, 2147483688, 3, 0)], h_b114_2),
  ([(2, 83, 0), (11, 0, 4294967295), (0, 3, 0), (0, 8, 0), (0, 4294967295, 0)], [(2147483648, 2147583648, 0, 0), (2147483648, 2147483648, 1, 0), (2147483648, 2147483688, 2, 0), (2147483648, 2147483688, 3, 0)], h_b114_3),
  ([(2, 83, 0), (11, 0, 4294967295), (0, 4, 0), (0, 8, 0), (0, 4294967295, 0)], [(2147483648, 2147583648, 0, 0), (2147483648, 2147483648, 1, 0), (2147483648, 2147483688, 2, 0), (2147483648, 2147483688, 3, 0)], h_b114_4),
  ([(2, 83, 0), (11, 0, 4294967295), (0, 5, 0), (0, 8, 0), (0, 4294967295, 0)], [(2147483648, 2147583648, 0, 0), (2147483648, 2147483648, 1, 0), (2147483648, 2147483688, 2, 0), (2147483648, 2147483688, 3, 0)], h_b114_5),
  ([(2, 83, 0), (11, 0, 4294967295), (0, 6, 0), (0, 8, 0), (0, 4294967295, 0)], [(2147483648, 2147583648, 0, 0), (2147483648, 2147483648, 1, 0), (2147483648, 2147483688, 2, 0), (2147483648, 2147483688, 3, 0)], h_b114_6),
  ([(2, 83, 0), (11, 0, 4294967295), (0, 7, 0), (0, 8, 0), (0, 4294967295, 0)], [(2147483648, 2147583648, 0, 0), (2147483648, 2147483648, 1, 0), (2147483648, 2147483688, 2, 0), (2147483648, 2147483688, 3, 0)], h_b114_7),
  ([(2, 83, 0), (11, 0, 4294967295), (0, 8, 0), (0, 8, 0), (0, 4294967295, 0)], [(2147483648, 2147583648, 0, 0), (2147483648, 2147483648, 1, 0), (2147483648, 2147483688, 2, 0), (2147483648, 2147483688, 3, 0)], h_b114_8),
  ([(2, 83, 0), (11, 0, 4294967295), (0, 9, 0), (0, 8, 0), (0, 4294967295, 0)], [(2147483648, 2147583648, 0, 0), (2147483648, 2147483648, 1, 0), (2147483648, 2147483688, 2, 0), (2147483648, 2147483688, 3, 0)], h_b114_9),
  ([(2, 83, 0), (11, 0, 4294967295), (0, 10, 0), (0, 8, 0), (0, 4294967295, 0)], [(2147483648, 2147583648, 0, 0), (2147483648, 2147483648, 1, 0), (2147483648, 2147483688, 2, 0), (2147483648, 2147483688, 3, 0)], h_b114_10),
  ([(2, 83, 0), (11, 0, 4294967295), (0, 11, 0), (0, 8, 0), (0, 4294967295, 0)], [(2147483648, 2147583648, 0, 0), (2147483648, 2147483648, 1, 0), (2147483648, 2147483688, 2, 0), (2147483648, 2147483688, 3, 0)], h_b114_11),
  ([(2, 83, 0), (11, 0, 4294967295), (0, 12, 0), (0, 8, 0), (0, 4294967295, 0)], [(2147483648, 2147583648, 0, 0), (2147483648, 2147483648, 1, 0), (2147483648, 2147483688, 2, 0), (2147483648, 2147483688, 3, 0)], h_b114_12),
  ([(2, 83, 0), (11, 0, 4294967295), (0, 13, 0), (0, 8, 0), (0, 4294967295, 0)], [(2147483648, 2147583648, 0, 0), (2147483648, 2147483648, 1, 0), (2147483648, 2147483688, 2, 0), (2147483648, 2147483688, 3, 0)], h_b114_13),
  ([(2, 83, 0), (11, 0, 4294967295), (0, 14, 0), (0, 8, 0), (0, 4294967295, 0)], [(2147483648, 2147583648, 0, 0), (2147483648, 2147483648, 1, 0), (2147483648, 2147483688, 2, 0), (2147483648, 2147483688, 3, 0)], h_b114_14),
  ([(2, 83, 0), (11, 0, 4294967295), (0, 15, 0), (0, 8, 0), (0, 4294967295, 0)], [(2147483648, 2147583648, 0, 0), (2147483648, 2147483648, 1, 0), (2147483648, 2147483688, 2, 0), (2147483648, 2147483688, 3, 0)], h_b114_15),
  ([(2, 83, 0), (11, 0, 4294967295), (0, 16, 0), (0, 8, 0), (0, 4294967295, 0)], [(2147483648, 2147583648, 0, 0), (2147483648, 2147483648, 1, 0), (2147483648, 2147483688, 2, 0), (2147483648, 2147483688, 3, 0)], h_b114_16),
  ([(2, 83, 0), (11, 0, 4294967295), (0, 17, 0), (0, 8, 0), (0, 4294967295, 0)], [(2147483648, 2147583648, 0, 0), (2147483648, 2147483648, 1, 0), (2147483648, 2147483688, 2, 0), (2147483648, 2147483688, 3, 0)], h_b114_17),
  ([(2, 83, 0), (11, 0, 4294967295), (0, 18, 0), (0, 8, 0), (0, 4294967295, 0)], [(2147483648, 2147583648, 0, 0), (2147483648, 2147483648, 1, 0), (2147483648, 2147483688, 2, 0), (2147483648, 2147483688, 3, 0)], h_b114_18),
  ([(2, 83, 0), (11, 0, 4294967295), (0, 19, 0), (0, 8, 0), (0, 4294967295, 0)], [(2147483648, 2147583648, 0, 0), (2147483648, 2147483648, 1, 0), (2147483648, 2147483688, 2, 0), (2147483648, 2147483688, 3, 0)], h_b114_19),
  ([(2, 83, 0), (11, 0, 4294967295), (0, 20, 0), (0, 8, 0), (0, 4294967295, 0)], [(2147483648, 2147583648, 0, 0), (2147483648, 2147483648, 1, 0), (2147483648, 2147483688, 2, 0), (2147483648, 2147483688, 3, 0)], h_b114_20)]
noncomputable def cl_b114_e : List (Nat × e2_S) := [(2, e2_cutL (al_b114_21.set 2 (11, 2147483648, 2147483657)) 4 (E_b114_21.take 4) h_b114_21)]
set_option maxRecDepth 1000000 in
theorem ck_b114_e : e2_run (e2_orG 231 83 11 4 2147483648 2147483668 as_b113 Eb_b113 f_b113 rs_b113 (e2_orG 231 83 11 4 2147483648 2147483668 as_b112 Eb_b112 f_b112 rs_b112 (e2_orG 231 83 11 4 2147483648 2147483668 as_b111 Eb_b111 f_b111 rs_b111 (e2_orG 231 83 11 4 2147483648 2147483668 as_b110 Eb_b110 f_b110 rs_b110 (e2_orG 231 83 11 4 2147483648 2147483668 as_b109 Eb_b109 f_b109 rs_b109 (e2_orG 231 83 11 4 2147483648 2147483668 as_b108 Eb_b108 f_b108 rs_b108 (e2_orG 231 83 11 4 2147483648 2147483668 as_b107 Eb_b107 f_b107 rs_b107 (e2_orG 231 83 11 4 2147483648 2147483668 as_b106 Eb_b106 f_b106 rs_b106 (e2_orG 231 83 11 4 2147483648 2147483668 as_b105 Eb_b105 f_b105 rs_b105 (e2_orG 231 83 11 4 2147483648 2147483668 as_b104 Eb_b104 f_b104 rs_b104 (e2_orG 231 83 11 4 2147483648 2147483668 as_b103 Eb_b103 f_b103 rs_b103 (e2_orG 231 83 11 4 2147483648 2147483668 as_b102 Eb_b102 f_b102 rs_b102 (e2_orG 231 83 11 4 2147483648 2147483668 as_b101 Eb_b101 f_b101 rs_b101 (e2_orG 231 83 11 4 2147483648 2147483668 as_b100 Eb_b100 f_b100 rs_b100 (e2_orG 231 83 11 4 2147483648 2147483668 as_b99 Eb_b99 f_b99 rs_b99 (e2_orG 231 83 11 4 2147483648 2147483668 as_b98 Eb_b98 f_b98 rs_b98 (e2_orG 231 83 11 4 2147483648 2147483668 as_b97 Eb_b97 f_b97 rs_b97 (e2_orG 231 83 11 4 2147483648 2147483668 as_b96 Eb_b96 f_b96 rs_b96 (e2_orG 231 83 11 4 2147483648 2147483668 as_b95 Eb_b95 f_b95 rs_b95 (e2_orG 231 83 11 4 2147483648 2147483668 as_b94 Eb_b94 f_b94 rs_b94 (e2_cal S_b114 I_b114 4000 1))))))))))))))))))))) (e2_fin rs_b114) e2x_230 (e2_bpL cl_b114_e) (e2_cutA cl_b114_e) 4000 (e2_seek e2x_230 0) (e2_al 5 as_b114) [] E_b114 f_b114 = true := by decide +kernel
noncomputable def cl_b114_21 : List (Nat × e2_S) := [(2, e2_cutL (al_b114_21.set 2 (13, 12, 2147483657)) 4 (E_b114_21.take 4) h_b114_21),
  (49, e2_cutL (al_b114_22.set 2 (11, 2147483647, 2147483667)) 4 (E_b114_22.take 4) h_b114_22)]
set_option maxRecDepth 1000000 in
theorem ck_b114_21 : e2_runM (e2_orG 231 83 11 4 2147483648 2147483668 as_b113 Eb_b113 f_b113 rs_b113 (e2_orG 231 83 11 4 2147483648 2147483668 as_b112 Eb_b112 f_b112 rs_b112 (e2_orG 231 83 11 4 2147483648 2147483668 as_b111 Eb_b111 f_b111 rs_b111 (e2_orG 231 83 11 4 2147483648 2147483668 as_b110 Eb_b110 f_b110 rs_b110 (e2_orG 231 83 11 4 2147483648 2147483668 as_b109 Eb_b109 f_b109 rs_b109 (e2_orG 231 83 11 4 2147483648 2147483668 as_b108 Eb_b108 f_b108 rs_b108 (e2_orG 231 83 11 4 2147483648 2147483668 as_b107 Eb_b107 f_b107 rs_b107 (e2_orG 231 83 11 4 2147483648 2147483668 as_b106 Eb_b106 f_b106 rs_b106 (e2_orG 231 83 11 4 2147483648 2147483668 as_b105 Eb_b105 f_b105 rs_b105 (e2_orG 231 83 11 4 2147483648 2147483668 as_b104 Eb_b104 f_b104 rs_b104 (e2_orG 231 83 11 4 2147483648 2147483668 as_b103 Eb_b103 f_b103 rs_b103 (e2_orG 231 83 11 4 2147483648 2147483668 as_b102 Eb_b102 f_b102 rs_b102 (e2_orG 231 83 11 4 2147483648 2147483668 as_b101 Eb_b101 f_b101 rs_b101 (e2_orG 231 83 11 4 2147483648 2147483668 as_b100 Eb_b100 f_b100 rs_b100 (e2_orG 231 83 11 4 2147483648 2147483668 as_b99 Eb_b99 f_b99 rs_b99 (e2_orG 231 83 11 4 2147483648 2147483668 as_b98 Eb_b98 f_b98 rs_b98 (e2_orG 231 83 11 4 2147483648 2147483668 as_b97 Eb_b97 f_b97 rs_b97 (e2_orG 231 83 11 4 2147483648 2147483668 as_b96 Eb_b96 f_b96 rs_b96 (e2_orG 231 83 11 4 2147483648 2147483668 as_b95 Eb_b95 f_b95 rs_b95 (e2_orG 231 83 11 4 2147483648 2147483668 as_b94 Eb_b94 f_b94 rs_b94 (e2_cal S_b114 I_b114 4000 1))))))))))))))))))))) (e2_fin rs_b114) e2x_230 (e2_bpL cl_b114_21) (e2_cutA cl_b114_21) 4000 (e2_seek e2x_230 2) al_b114_21 [] E_b114_21 h_b114_21 = true := by decide +kernel
set_option maxRecDepth 1000000 in
theorem ci_b114_21 : e2_idl 4 (al_b114_21.set 2 (9, 0, 0)) = true := by decide +kernel
set_option maxRecDepth 1000000 in
theorem cj_b114_21 : e2_idh 4 8 h_b114_21 = true := by decide +kernel
noncomputable def cl_b114_22 : List (Nat × e2_S) := [(120, e2_cutS cu_b114_120),
  (55, e2_cutL (al_b114_23.set 3 (11, 2147483648, 2147483657)) 5 (E_b114_23.take 5) h_b114_23)]
set_option maxRecDepth 1000000 in
theorem ck_b114_22 : e2_runM (e2_orG 231 83 11 4 2147483648 2147483668 as_b113 Eb_b113 f_b113 rs_b113 (e2_orG 231 83 11 4 2147483648 2147483668 as_b112 Eb_b112 f_b112 rs_b112 (e2_orG 231 83 11 4 2147483648 2147483668 as_b111 Eb_b111 f_b111 rs_b111 (e2_orG 231 83 11 4 2147483648 2147483668 as_b110 Eb_b110 f_b110 rs_b110 (e2_orG 231 83 11 4 2147483648 2147483668 as_b109 Eb_b109 f_b109 rs_b109 (e2_orG 231 83 11 4 2147483648 2147483668 as_b108 Eb_b108 f_b108 rs_b108 (e2_orG 231 83 11 4 2147483648 2147483668 as_b107 Eb_b107 f_b107 rs_b107 (e2_orG 231 83 11 4 2147483648 2147483668 as_b106 Eb_b106 f_b106 rs_b106 (e2_orG 231 83 11 4 2147483648 2147483668 as_b105 Eb_b105 f_b105 rs_b105 (e2_orG 231 83 11 4 2147483648 2147483668 as_b104 Eb_b104 f_b104 rs_b104 (e2_orG 231 83 11 4 2147483648 2147483668 as_b103 Eb_b103 f_b103 rs_b103 (e2_orG 231 83 11 4 2147483648 2147483668 as_b102 Eb_b102 f_b102 rs_b102 (e2_orG 231 83 11 4 2147483648 2147483668 as_b101 Eb_b101 f_b101 rs_b101 (e2_orG 231 83 11 4 2147483648 2147483668 as_b100 Eb_b100 f_b100 rs_b100 (e2_orG 231 83 11 4 2147483648 2147483668 as_b99 Eb_b99 f_b99 rs_b99 (e2_orG 231 83 11 4 2147483648 2147483668 as_b98 Eb_b98 f_b98 rs_b98 (e2_orG 231 83 11 4 2147483648 2147483668 as_b97 Eb_b97 f_b97 rs_b97 (e2_orG 231 83 11 4 2147483648 2147483668 as_b96 Eb_b96 f_b96 rs_b96 (e2_orG 231 83 11 4 2147483648 2147483668 as_b95 Eb_b95 f_b95 rs_b95 (e2_orG 231 83 11 4 2147483648 2147483668 as_b94 Eb_b94 f_b94 rs_b94 (e2_cal S_b114 I_b114 4000 1))))))))))))))))))))) (e2_fin rs_b114) e2x_230 (e2_bpL cl_b114_22) (e2_cutA cl_b114_22) 4000 (e2_seek e2x_230 49) al_b114_22 [] E_b114_22 h_b114_22 = true := by decide +kernel
set_option maxRecDepth 1000000 in
theorem ci_b114_22 : e2_idl 4 (al_b114_22.set 2 (9, 0, 0)) = true := by decide +kernel
set_option maxRecDepth 1000000 in
theorem cj_b114_22 : e2_idh 4 8 h_b114_22 = true := by decide +kernel
noncomputable def cl_b114_23 : List (Nat × e2_S) := [(49, e2_cutL (al_b114_22.set 2 (12, 12, 2147483647)) 4 (E_b114_22.take 4) h_b114_22),
  (55, e2_cutL (al_b114_23.set 3 (13, 13, 2147483657)) 5 (E_b114_23.take 5) h_b114_23)]
set_option maxRecDepth 1000000 in
theorem ck_b114_23 : e2_runM (e2_orG 231 83 11 4 2147483648 2147483668 as_b113 Eb_b113 f_b113 rs_b113 (e2_orG 231 83 11 4 2147483648 2147483668 as_b112 Eb_b112 f_b112 rs_b112 (e2_orG 231 83 11 4 2147483648 2147483668 as_b111 Eb_b111 f_b111 rs_b111 (e2_orG 231 83 11 4 2147483648 2147483668 as_b110 Eb_b110 f_b110 rs_b110 (e2_orG 231 83 11 4 2147483648 2147483668 as_b109 Eb_b109 f_b109 rs_b109 (e2_orG 231 83 11 4 2147483648 2147483668 as_b108 Eb_b108 f_b108 rs_b108 (e2_orG 231 83 11 4 2147483648 2147483668 as_b107 Eb_b107 f_b107 rs_b107 (e2_orG 231 83 11 4 2147483648 2147483668 as_b106 Eb_b106 f_b106 rs_b106 (e2_orG 231 83 11 4 2147483648 2147483668 as_b105 Eb_b105 f_b105 rs_b105 (e2_orG 231 83 11 4 2147483648 2147483668 as_b104 Eb_b104 f_b104 rs_b104 (e2_orG 231 83 11 4 2147483648 2147483668 as_b103 Eb_b103 f_b103 rs_b103 (e2_orG 231 83 11 4 2147483648 2147483668 as_b102 Eb_b102 f_b102 rs_b102 (e2_orG 231 83 11 4 2147483648 2147483668 as_b101 Eb_b101 f_b101 rs_b101 (e2_orG 231 83 11 4 2147483648 2147483668 as_b100 Eb_b100 f_b100 rs_b100 (e2_orG 231 83 11 4 2147483648 2147483668 as_b99 Eb_b99 f_b99 rs_b99 (e2_orG 231 83 11 4 2147483648 2147483668 as_b98 Eb_b98 f_b98 rs_b98 (e2_orG 231 83 11 4 2147483648 2147483668 as_b97 Eb_b97 f_b97 rs_b97 (e2_orG 231 83 11 4 2147483648 2147483668 as_b96 Eb_b96 f_b96 rs_b96 (e2_orG 231 83 11 4 2147483648 2147483668 as_b95 Eb_b95 f_b95 rs_b95 (e2_orG 231 83 11 4 2147483648 2147483668 as_b94 Eb_b94 f_b94 rs_b94 (e2_cal S_b114 I_b114 4000 1))))))))))))))))))))) (e2_fin rs_b114) e2x_230 (e2_bpL cl_b114_23) (e2_cutA cl_b114_23) 4000 (e2_seek e2x_230 55) al_b114_23 [] E_b114_23 h_b114_23 = true := by decide +kernel
set_option maxRecDepth 1000000 in
theorem ci_b114_23 : e2_idl 5 (al_b114_23.set 3 (9, 0, 0)) = true := by decide +kernel
set_option maxRecDepth 1000000 in
theorem cj_b114_23 : e2_idh 5 8 h_b114_23 = true := by decide +kernel
set_option maxRecDepth 1000000 in
theorem ck_b114_u120 : e2_cutsB (e2_orG 231 83 11 4 2147483648 2147483668 as_b113 Eb_b113 f_b113 rs_b113 (e2_orG 231 83 11 4 2147483648 2147483668 as_b112 Eb_b112 f_b112 rs_b112 (e2_orG 231 83 11 4 2147483648 2147483668 as_b111 Eb_b111 f_b111 rs_b111 (e2_orG 231 83 11 4 2147483648 2147483668 as_b110 Eb_b110 f_b110 rs_b110 (e2_orG 231 83 11 4 2147483648 2147483668 as_b109 Eb_b109 f_b109 rs_b109 (e2_orG 231 83 11 4 2147483648 2147483668 as_b108 Eb_b108 f_b108 rs_b108 (e2_orG 231 83 11 4 2147483648 2147483668 as_b107 Eb_b107 f_b107 rs_b107 (e2_orG 231 83 11 4 2147483648 2147483668 as_b106 Eb_b106 f_b106 rs_b106 (e2_orG 231 83 11 4 2147483648 2147483668 as_b105 Eb_b105 f_b105 rs_b105 (e2_orG 231 83 11 4 2147483648 2147483668 as_b104 Eb_b104 f_b104 rs_b104 (e2_orG 231 83 11 4 2147483648 2147483668 as_b103 Eb_b103 f_b103 rs_b103 (e2_orG 231 83 11 4 2147483648 2147483668 as_b102 Eb_b102 f_b102 rs_b102 (e2_orG 231 83 11 4 2147483648 2147483668 as_b101 Eb_b101 f_b101 rs_b101 (e2_orG 231 83 11 4 2147483648 2147483668 as_b100 Eb_b100 f_b100 rs_b100 (e2_orG 231 83 11 4 2147483648 2147483668 as_b99 Eb_b99 f_b99 rs_b99 (e2_orG 231 83 11 4 2147483648 2147483668 as_b98 Eb_b98 f_b98 rs_b98 (e2_orG 231 83 11 4 2147483648 2147483668 as_b97 Eb_b97 f_b97 rs_b97 (e2_orG 231 83 11 4 2147483648 2147483668 as_b96 Eb_b96 f_b96 rs_b96 (e2_orG 231 83 11 4 2147483648 2147483668 as_b95 Eb_b95 f_b95 rs_b95 (e2_orG 231 83 11 4 2147483648 2147483668 as_b94 Eb_b94 f_b94 rs_b94 (e2_cal S_b114 I_b114 4000 1))))))))))))))))))))) (e2_fin rs_b114) e2x_230 120 4000 cu_b114_120 = true := by decide +kernel
set_option maxRecDepth 1000000 in
theorem cs_b114 (hen : en_ok) (l : Launch) : e2_smOk l 5 s_b114 := by
  refine e2_conC (H := 4) (C := evd_230) (call := (e2_orG 231 83 11 4 2147483648 2147483668 as_b113 Eb_b113 f_b113 rs_b113 (e2_orG 231 83 11 4 2147483648 2147483668 as_b112 Eb_b112 f_b112 rs_b112 (e2_orG 231 83 11 4 2147483648 2147483668 as_b111 Eb_b111 f_b111 rs_b111 (e2_orG 231 83 11 4 2147483648 2147483668 as_b110 Eb_b110 f_b110 rs_b110 (e2_orG 231 83 11 4 2147483648 2147483668 as_b109 Eb_b109 f_b109 rs_b109 (e2_orG 231 83 11 4 2147483648 2147483668 as_b108 Eb_b108 f_b108 rs_b108 (e2_orG 231 83 11 4 2147483648 2147483668 as_b107 Eb_b107 f_b107 rs_b107 (e2_orG 231 83 11 4 2147483648 2147483668 as_b106 Eb_b106 f_b106 rs_b106 (e2_orG 231 83 11 4 2147483648 2147483668 as_b105 Eb_b105 f_b105 rs_b105 (e2_orG 231 83 11 4 2147483648 2147483668 as_b104 Eb_b104 f_b104 rs_b104 (e2_orG 231 83 11 4 2147483648 2147483668 as_b103 Eb_b103 f_b103 rs_b103 (e2_orG 231 83 11 4 2147483648 2147483668 as_b102 Eb_b102 f_b102 rs_b102 (e2_orG 231 83 11 4 2147483648 2147483668 as_b101 Eb_b101 f_b101 rs_b101 (e2_orG 231 83 11 4 2147483648 2147483668 as_b100 Eb_b100 f_b100 rs_b100 (e2_orG 231 83 11 4 2147483648 2147483668 as_b99 Eb_b99 f_b99 rs_b99 (e2_orG 231 83 11 4 2147483648 2147483668 as_b98 Eb_b98 f_b98 rs_b98 (e2_orG 231 83 11 4 2147483648 2147483668 as_b97 Eb_b97 f_b97 rs_b97 (e2_orG 231 83 11 4 2147483648 2147483668 as_b96 Eb_b96 f_b96 rs_b96 (e2_orG 231 83 11 4 2147483648 2147483668 as_b95 Eb_b95 f_b95 rs_b95 (e2_orG 231 83 11 4 2147483648 2147483668 as_b94 Eb_b94 f_b94 rs_b94 (e2_cal S_b114 I_b114 4000 1)))))))))))))))))))))) ei_230 (fun d hd => (e2_orG_ok (k0 := 231) (a := 83) (j := 11) (n := 4) (lo := 2147483648) (hi := 2147483668) (as0 := as_b113) (Eb := Eb_b113) (f := f_b113) (res := rs_b113) (e2_orG_ok (k0 := 231) (a := 83) (j := 11) (n := 4) (lo := 2147483648) (hi := 2147483668) (as0 := as_b112) (Eb := Eb_b112) (f := f_b112) (res := rs_b112) (e2_orG_ok (k0 := 231) (a := 83) (j := 11) (n := 4) (lo := 2147483648) (hi := 2147483668) (as0 := as_b111) (Eb := Eb_b111) (f := f_b111) (res := rs_b111) (e2_orG_ok (k0 := 231) (a := 83) (j := 11) (n := 4) (lo := 2147483648) (hi := 2147483668) (as0 := as_b110) (Eb := Eb_b110) (f := f_b110) (res := rs_b110) (e2_orG_ok (k0 := 231) (a := 83) (j := 11) (n := 4) (lo := 2147483648) (hi := 2147483668) (as0 := as_b109) (Eb := Eb_b109) (f := f_b109) (res := rs_b109) (e2_orG_ok (k0 := 231) (a := 83) (j := 11) (n := 4) (lo := 2147483648) (hi := 2147483668) (as0 := as_b108) (Eb := Eb_b108) (f := f_b108) (res := rs_b108) (e2_orG_ok (k0 := 231) (a := 83) (j := 11) (n := 4) (lo := 2147483648) (hi := 2147483668) (as0 := as_b107) (Eb := Eb_b107) (f := f_b107) (res := rs_b107) (e2_orG_ok (k0 := 231) (a := 83) (j := 11) (n := 4) (lo := 2147483648) (hi := 2147483668) (as0 := as_b106) (Eb := Eb_b106) (f := f_b106) (res := rs_b106) (e2_orG_ok (k0 := 231) (a := 83) (j := 11) (n := 4) (lo := 2147483648) (hi := 2147483668) (as0 := as_b105) (Eb := Eb_b105) (f := f_b105) (res := rs_b105) (e2_orG_ok (k0 := 231) (a := 83) (j := 11) (n := 4) (lo := 2147483648) (hi := 2147483668) (as0 := as_b104) (Eb := Eb_b104) (f := f_b104) (res := rs_b104) (e2_orG_ok (k0 := 231) (a := 83) (j := 11) (n := 4) (lo := 2147483648) (hi := 2147483668) (as0 := as_b103) (Eb := Eb_b103) (f := f_b103) (res := rs_b103) (e2_orG_ok (k0 := 231) (a := 83) (j := 11) (n := 4) (lo := 2147483648) (hi := 2147483668) (as0 := as_b102) (Eb := Eb_b102) (f := f_b102) (res := rs_b102) (e2_orG_ok (k0 := 231) (a := 83) (j := 11) (n := 4) (lo := 2147483648) (hi := 2147483668) (as0 := as_b101) (Eb := Eb_b101) (f := f_b101) (res := rs_b101) (e2_orG_ok (k0 := 231) (a := 83) (j := 11) (n := 4) (lo := 2147483648) (hi := 2147483668) (as0 := as_b100) (Eb := Eb_b100) (f := f_b100) (res := rs_b100) (e2_orG_ok (k0 := 231) (a := 83) (j := 11) (n := 4) (lo := 2147483648) (hi := 2147483668) (as0 := as_b99) (Eb := Eb_b99) (f := f_b99) (res := rs_b99) (e2_orG_ok (k0 := 231) (a := 83) (j := 11) (n := 4) (lo := 2147483648) (hi := 2147483668) (as0 := as_b98) (Eb := Eb_b98) (f := f_b98) (res := rs_b98) (e2_orG_ok (k0 := 231) (a := 83) (j := 11) (n := 4) (lo := 2147483648) (hi := 2147483668) (as0 := as_b97) (Eb := Eb_b97) (f := f_b97) (res := rs_b97) (e2_orG_ok (k0 := 231) (a := 83) (j := 11) (n := 4) (lo := 2147483648) (hi := 2147483668) (as0 := as_b96) (Eb := Eb_b96) (f := f_b96) (res := rs_b96) (e2_orG_ok (k0 := 231) (a := 83) (j := 11) (n := 4) (lo := 2147483648) (hi := 2147483668) (as0 := as_b95) (Eb := Eb_b95) (f := f_b95) (res := rs_b95) (e2_orG_ok (k0 := 231) (a := 83) (j := 11) (n := 4) (lo := 2147483648) (hi := 2147483668) (as0 := as_b94) (Eb := Eb_b94) (f := f_b94) (res := rs_b94) (e2_cal_ok hen (e2_fa (cs_b44 hen l) (e2_fa (cs_b45 hen l) (e2_fa (cs_b46 hen l) (e2_fa (cs_b47 hen l) (e2_fa (cs_b48 hen l) (e2_fa (cs_b49 hen l) (e2_fa (cs_b50 hen l) (e2_fa (cs_b51 hen l) (e2_fa (cs_b52 hen l) (e2_fa (cs_b53 hen l) (e2_fa (cs_b54 hen l) (e2_fa (cs_b55 hen l) (e2_fa (cs_b56 hen l) (e2_fa (cs_b57 hen l) (e2_fa (cs_b58 hen l) (e2_fa (cs_b59 hen l) (e2_fa (cs_b60 hen l) (e2_fa (cs_b61 hen l) (e2_fa (cs_b62 hen l) (e2_fa (cs_b63 hen l) e2_fz)))))))))))))))))))) (e2_fa ein_216 (e2_fa ein_217 (e2_fa ein_227 e2_fz))) 1 d (by omega)) rfl (by decide +kernel) (fun M hM => (cs_b94 hen l).2 M hM d (by omega)) (e2_okGB_ok cog_b94)) rfl (by decide +kernel) (fun M hM => (cs_b95 hen l).2 M hM d (by omega)) (e2_okGB_ok cog_b95)) rfl (by decide +kernel) (fun M hM => (cs_b96 hen l).2 M hM d (by omega)) (e2_okGB_ok cog_b96)) rfl (by decide +kernel) (fun M hM => (cs_b97 hen l).2 M hM d (by omega)) (e2_okGB_ok cog_b97)) rfl (by decide +kernel) (fun M hM => (cs_b98 hen l).2 M hM d (by omega)) (e2_okGB_ok cog_b98)) rfl (by decide +kernel) (fun M hM => (cs_b99 hen l).2 M hM d (by omega)) (e2_okGB_ok cog_b99)) rfl (by decide +kernel) (fun M hM => (cs_b100 hen l).2 M hM d (by omega)) (e2_okGB_ok cog_b100)) rfl (by decide +kernel) (fun M hM => (cs_b101 hen l).2 M hM d (by omega)) (e2_okGB_ok cog_b101)) rfl (by decide +kernel) (fun M hM => (cs_b102 hen l).2 M hM d (by omega)) (e2_okGB_ok cog_b102)) rfl (by decide +kernel) (fun M hM => (cs_b103 hen l).2 M hM d (by omega)) (e2_okGB_ok cog_b103)) rfl (by decide +kernel) (fun M hM => (cs_b104 hen l).2 M hM d (by omega)) (e2_okGB_ok cog_b104)) rfl (by decide +kernel) (fun M hM => (cs_b105 hen l).2 M hM d (by omega)) (e2_okGB_ok cog_b105)) rfl (by decide +kernel) (fun M hM => (cs_b106 hen l).2 M hM d (by omega)) (e2_okGB_ok cog_b106)) rfl (by decide +kernel) (fun M hM => (cs_b107 hen l).2 M hM d (by omega)) (e2_okGB_ok cog_b107)) rfl (by decide +kernel) (fun M hM => (cs_b108 hen l).2 M hM d (by omega)) (e2_okGB_ok cog_b108)) rfl (by decide +kernel) (fun M hM => (cs_b109 hen l).2 M hM d (by omega)) (e2_okGB_ok cog_b109)) rfl (by decide +kernel) (fun M hM => (cs_b110 hen l).2 M hM d (by omega)) (e2_okGB_ok cog_b110)) rfl (by decide +kernel) (fun M hM => (cs_b111 hen l).2 M hM d (by omega)) (e2_okGB_ok cog_b111)) rfl (by decide +kernel) (fun M hM => (cs_b112 hen l).2 M hM d (by omega)) (e2_okGB_ok cog_b112)) rfl (by decide +kernel) (fun M hM => (cs_b113 hen l).2 M hM d (by omega)) (e2_okGB_ok cog_b113))) (by decide) co_b114 fun M d _ hC hcall p e R s m args below meth c Q D cA A ads r0 ha hl0 => ?_
  have EN_120 := e2_cutS_ok (bp := 120) (cuts := cu_b114_120) (e2_cuts_len hl0 (by decide +kernel)) (e2_cuts_ok hen ha hcall (hC [76, 192, 195]) (X := e2x_230) ex2_230 (e2_cuts_len hl0 (by decide +kernel)) ck_b114_u120)
  have L_22 : e2_gdM M p l e R s m args below meth c Q D cA A ads r0 49 al_b114_22 [] E_b114_22 h_b114_22 := by
    refine e2_indD (u := 4) (j := 2) (lo := 2147483647) (hi := 2147483667) hl0 (by decide) rfl rfl rfl ci_b114_22 cj_b114_22 ?_
    intro r_22 k_22 hk_22 hp_22 hs_22 hn_22
    have hl_22 : r_22.length ≤ 5 := hs_22.len rfl
    have ha_22 := ha.ext hp_22
    have L_23 : e2_gdM M p l e R s m args below meth c Q D cA A ads r_22 55 al_b114_23 [] E_b114_23 h_b114_23 := by
      refine e2_indL (u := 5) (j := 3) (lo := 2147483648) (hi := 2147483657) (b := 5) (dd := 0) hl_22 (by decide) rfl rfl (Or.inr ⟨rfl, rfl⟩) rfl ci_b114_23 cj_b114_23 ?_
      intro r_23 k_23 hk_23 hp_23 hs_23 hn_23
      have hl_23 : r_23.length ≤ 6 := hs_23.len rfl
      have ha_23 := ha_22.ext hp_23
      exact e2_fromM hen ha_23 hcall (e2_cutA_ok (e2_fa (fun al st E h hc => (hn_22 al st E h hc).ext hp_23) (e2_fa (fun al st E h hc => hn_23 al st E h hc) e2_fz))) (hC [76, 192, 195]) (X := e2x_230) ex2_230 55 ck_b114_23
    have EN_23 := e2_entL (u := 5) (j := 3) (lo := 2147483648) (hi := 2147483657) hl_22 rfl rfl rfl ci_b114_23 cj_b114_23 L_23
    exact e2_fromM hen ha_22 hcall (e2_cutA_ok (e2_fa (fun al st E h hc => (EN_120 al st E h hc).ext hp_22) (e2_fa (fun al st E h hc => EN_23 al st E h hc) e2_fz))) (hC [76, 192, 195]) (X := e2x_230) ex2_230 49 ck_b114_22
  have EN_22 := e2_entL (u := 4) (j := 2) (lo := 2147483647) (hi := 2147483667) hl0 rfl rfl rfl ci_b114_22 cj_b114_22 L_22
  have L_21 : e2_gdM M p l e R s m args below meth c Q D cA A ads r0 2 al_b114_21 [] E_b114_21 h_b114_21 := by
    refine e2_indL (u := 4) (j := 2) (lo := 2147483648) (hi := 2147483657) (b := 4) (dd := 0) hl0 (by decide) rfl rfl (Or.inr ⟨rfl, rfl⟩) rfl ci_b114_21 cj_b114_21 ?_
    intro r_21 k_21 hk_21 hp_21 hs_21 hn_21
    have hl_21 : r_21.length ≤ 5 := hs_21.len rfl
    have ha_21 := ha.ext hp_21
    exact e2_fromM hen ha_21 hcall (e2_cutA_ok (e2_fa (fun al st E h hc => hn_21 al st E h hc) (e2_fa (fun al st E h hc => (EN_22 al st E h hc).ext hp_21) e2_fz))) (hC [76, 192, 195]) (X := e2x_230) ex2_230 2 ck_b114_21
  have EN_21 := e2_entL (u := 4) (j := 2) (lo := 2147483648) (hi := 2147483657) hl0 rfl rfl rfl ci_b114_21 cj_b114_21 L_21
  exact e2_from hen ha hcall (e2_cutA_ok (e2_fa (fun al st E h hc => EN_21 al st E h hc) e2_fz)) (hC [76, 192, 195]) (X := e2x_230) ex2_230 0 ck_b114_e
/-! b115 X10_read -/
def as_b115 : List ev_V := [(2, 83, 0), (11, 0, 4294967295)]
def E_b115 : e2_E := [(2147483648, 2147583648, 0, 0), (2147483649, 2147483649, 1, 0), (2147483648, 2147483688, 2, 0), (2147483648, 2147483688, 3, 0)]
def bn1041 : e2_Q7 := (bn504, bn457)
def bn1042 : e2_Q8 := (bn477, bn1041)
noncomputable def f_b115 : ev_H := (bn1042 : e2_Q8)
noncomputable def q_b115_0 : ev_H := (bn1042 : e2_Q8)
noncomputable def rs_b115 : e2_Rs := [((11, 2147483647, 2147483668), q_b115_0)]
noncomputable def s_b115 : e2_Sm := (230, as_b115, E_b115, f_b115, rs_b115)
noncomputable def S_b115 : List e2_Sm := [s_b44, s_b45, s_b46, s_b47, s_b48, s_b49, s_b50, s_b51, s_b52, s_b53, s_b54, s_b55, s_b56, s_b57, s_b58, s_b59, s_b60, s_b61, s_b62, s_b63]
noncomputable def I_b115 : List e2_In := [(216, 1, e2x_216), (217, 1, e2x_217), (227, 2, e2x_227)]
set_option maxRecDepth 1000000 in
theorem co_b115 : e2_okSB E_b115.length as_b115 f_b115 rs_b115 = true := by decide +kernel
def al_b115_26 : List ev_V := [(2, 83, 0), (11, 0, 4294967295), (1, 4, 4294967296), (9, 0, 0), (9, 0, 0)]
def E_b115_26 : e2_E := [(2147483648, 2147583648, 0, 0), (2147483649, 2147483649, 1, 0), (2147483648, 2147483688, 2, 0), (2147483648, 2147483688, 3, 0), (2147483648, 2147483657, 4, 0)]
noncomputable def h_b115_26 : ev_H := (bn1042 : e2_Q8)
def al_b115_27 : List ev_V := [(2, 83, 0), (11, 0, 4294967295), (1, 4, 4294967296), (9, 0, 0), (9, 0, 0)]
def E_b115_27 : e2_E := [(2147483648, 2147583648, 0, 0), (2147483649, 2147483649, 1, 0), (2147483648, 2147483688, 2, 0), (2147483648, 2147483688, 3, 0), (2147483647, 2147483667, 4, 0)]
noncomputable def h_b115_27 : ev_H := (bn1042 : e2_Q8)
def al_b115_28 : List ev_V := [(2, 83, 0), (11, 0, 4294967295), (1, 4, 4294967296), (1, 5, 4294967296), (9, 0, 0)]
def E_b115_28 : e2_E := [(2147483648, 2147583648, 0, 0), (2147483649, 2147483649, 1, 0), (2147483648, 2147483688, 2, 0), (2147483648, 2147483688, 3, 0), (2147483648, 2147483667, 4, 0), (2147483648, 2147483657, 5, 0)]
noncomputable def h_b115_28 : ev_H := (bn1042 : e2_Q8)
def bn1043 : e2_Q7 := (bn504, bn1038)
def bn1044 : e2_Q8 := (bn477, bn1043)
noncomputable def h_b115_0 : ev_H := (bn1044 : e2_Q8)
def bc192 : ev_C := (10, [(0, 0, 0), (2, 88, 0), (2, 115, 0), (2, 114, 0), (2, 86, 0), (2, 112, 0), (11, 2147483648, 2147483688), (2, 118, 0), (2, 120, 0), (2, 131, 0), (2, 91, 0), (11, 2147483648, 2147483649), (2, 123, 0), (11, 2147483648, 2147483649), (11, 2147483648, 2147485248), (2, 87, 0), (2, 84, 0), (2, 122, 0), (2, 100, 0), (2, 132, 0), (11, 2147483648, 2147483668), (11, 2147483648, 2147485248), (1, 0, 4294967296), (11, 0, 4294967295), (11, 2147483648, 2147485248), (2, 93, 0), (2, 104, 0), (11, 2147483648, 2147483678), (2, 89, 0), (2, 92, 0), (2, 119, 0), (2, 90, 0), (2, 94, 0), (2, 103, 0), (0, 0, 0), (11, 0, 4294967295), (11, 0, 4294967295), (11, 2147483648, 2147485249), (11, 2147483648, 2147483653), (11, 2147483648, 2147483668), (2, 85, 0), (11, 2147483648, 2147493647), (5, 0, 0), (2, 95, 0), (2, 96, 0), (2, 97, 0), (2, 98, 0), (2, 99, 0), (2, 101, 0), (2, 102, 0), (2, 105, 0), (2, 106, 0), (2, 107, 0), (2, 108, 0), (2, 109, 0), (2, 110, 0), (2, 111, 0), (11, 2147483648, 2147484768), (11, 2147482048, 2147483655), (11, 2147483648, 2147483738), (11, 2147483648, 2147483678), (11, 0, 4294967295), (11, 0, 4294967295), (11, 0, 4294967295), (11, 0, 4294967295), (11, 0, 4294967295), (2, 113, 0), (2, 116, 0), (2, 117, 0), (2, 121, 0), (11, 0, 4294967295), (11, 0, 4294967295), (2, 124, 0), (2, 125, 0), (11, 0, 4294967295), (2, 126, 0), (2, 127, 0), (2, 128, 0), (2, 129, 0), (2, 130, 0)])
def bn1045 : e2_Q1 := (bc192, bc3)
def bn1046 : e2_Q2 := (bn197, bn1045)
def bn1047 : e2_Q3 := (bn1046, bn447)
def bn1048 : e2_Q4 := (bn196, bn1047)
def bn1049 : e2_Q5 := (bn1048, bn219)
def bn1050 : e2_Q6 := (bn1049, bn251)
def bn1051 : e2_Q7 := (bn504, bn1050)
def bn1052 : e2_Q8 := (bn477, bn1051)
noncomputable def h_b115_1 : ev_H := (bn1052 : e2_Q8)
def bc193 : ev_C := (10, [(0, 0, 0), (2, 88, 0), (2, 115, 0), (2, 114, 0), (2, 86, 0), (2, 112, 0), (11, 2147483648, 2147483688), (2, 118, 0), (2, 120, 0), (2, 131, 0), (2, 91, 0), (11, 2147483648, 2147483650), (2, 123, 0), (11, 2147483648, 2147483649), (11, 2147483648, 2147485248), (2, 87, 0), (2, 84, 0), (2, 122, 0), (2, 100, 0), (2, 132, 0), (11, 2147483648, 2147483668), (11, 2147483648, 2147485248), (1, 0, 4294967296), (11, 0, 4294967295), (11, 2147483648, 2147485248), (2, 93, 0), (2, 104, 0), (11, 2147483648, 2147483678), (2, 89, 0), (2, 92, 0), (2, 119, 0), (2, 90, 0), (2, 94, 0), (2, 103, 0), (0, 0, 0), (11, 0, 4294967295), (11, 0, 4294967295), (11, 2147483648, 2147485249), (11, 2147483648, 2147483653), (11, 2147483648, 2147483668), (2, 85, 0), (11, 2147483648, 2147493647), (5, 0, 0), (2, 95, 0), (2, 96, 0), (2, 97, 0), (2, 98, 0), (2, 99, 0), (2, 101, 0), (2, 102, 0), (2, 105, 0), (2, 106, 0), (2, 107, 0), (2, 108, 0), (2, 109, 0), (2, 110, 0), (2, 111, 0), (11, 2147483648, 2147484768), (11, 2147482048, 2147483655), (11, 2147483648, 2147483738), (11, 2147483648, 2147483678), (11, 0, 4294967295), (11, 0, 4294967295), (11, 0, 4294967295), (11, 0, 4294967295), (11, 0, 4294967295), (2, 113, 0), (2, 116, 0), (2, 117, 0), (2, 121, 0), (11, 0, 4294967295), (11, 0, 4294967295), (2, 124, 0), (2, 125, 0), (11, 0, 4294967295), (2, 126, 0), (2, 127, 0), (2, 128, 0), (2, 129, 0), (2, 130, 0)])
def bn1053 : e2_Q1 := (bc193, bc3)
def bn1054 : e2_Q2 := (bn197, bn1053)
def bn1055 : e2_Q3 := (bn1054, bn447)
def bn1056 : e2_Q4 := (bn196, bn1055)
def bn1057 : e2_Q5 := (bn1056, bn219)
def bn1058 : e2_Q6 := (bn1057, bn251)
def bn1059 : e2_Q7 := (bn504, bn1058)
def bn1060 : e2_Q8 := (bn477, bn1059)
noncomputable def h_b115_2 : ev_H := (bn1060 : e2_Q8)
def bc194 : ev_C := (10, [(0, 0, 0), (2, 88, 0), (2, 115, 0), (2, 114, 0), (2, 86, 0), (2, 112, 0), (11, 2147483648, 2147483688), (2, 118, 0), (2, 120, 0), (2, 131, 0), (2, 91, 0), (11, 2147483648, 2147483651), (2, 123, 0), (11, 2147483648, 2147483649), (11, 2147483648, 2147485248), (2, 87, 0), (2, 84, 0), (2, 122, 0), (2, 100, 0), (2, 132, 0), (11, 2147483648, 2147483668), (11, 2147483648, 2147485248), (1, 0, 4294967296), (11, 0, 4294967295), (11, 2147483648, 2147485248), (2, 93, 0), (2, 104, 0), (11, 2147483648, 2147483678), (2, 89, 0), (2, 92, 0), (2, 119, 0), (2, 90, 0), (2, 94, 0), (2, 103, 0), (0, 0, 0), (11, 0, 4294967295), (11, 0, 4294967295), (11, 2147483648, 2147485249), (11, 2147483648, 2147483653), (11, 2147483648, 2147483668), (2, 85, 0), (11, 2147483648, 2147493647), (5, 0, 0), (2, 95, 0), (2, 96, 0), (2, 97, 0), (2, 98, 0), (2, 99, 0), (2, 101, 0), (2, 102, 0), (2, 105, 0), (2, 106, 0), (2, 107, 0), (2, 108, 0), (2, 109, 0), (2, 110, 0), (2, 111, 0), (11, 2147483648, 2147484768), (11, 2147482048, 2147483655), (11, 2147483648, 2147483738), (11, 2147483648, 2147483678), (11, 0, 4294967295), (11, 0, 4294967295), (11, 0, 4294967295), (11, 0, 4294967295), (11, 0, 4294967295), (2, 113, 0), (2, 116, 0), (2, 117, 0), (2, 121, 0), (11, 0, 4294967295), (11, 0, 4294967295), (2, 124, 0), (2, 125, 0), (11, 0, 4294967295), (2, 126, 0), (2, 127, 0), (2, 128, 0), (2, 129, 0), (2, 130, 0)])
def bn1061 : e2_Q1 := (bc194, bc3)
def bn1062 : e2_Q2 := (bn197, bn1061)
def bn1063 : e2_Q3 := (bn1062, bn447)
def bn1064 : e2_Q4 := (bn196, bn1063)
def bn1065 : e2_Q5 := (bn1064, bn219)
def bn1066 : e2_Q6 := (bn1065, bn251)
def bn1067 : e2_Q7 := (bn504, bn1066)
def bn1068 : e2_Q8 := (bn477, bn1067)
noncomputable def h_b115_3 : ev_H := (bn1068 : e2_Q8)
def bc195 : ev_C := (10, [(0, 0, 0), (2, 88, 0), (2, 115, 0), (2, 114, 0), (2, 86, 0), (2, 112, 0), (11, 2147483648, 2147483688), (2, 118, 0), (2, 120, 0), (2, 131, 0), (2, 91, 0), (11, 2147483648, 2147483652), (2, 123, 0), (11, 2147483648, 2147483649), (11, 2147483648, 2147485248), (2, 87, 0), (2, 84, 0), (2, 122, 0), (2, 100, 0), (2, 132, 0), (11, 2147483648, 2147483668), (11, 2147483648, 2147485248), (1, 0, 4294967296), (11, 0, 4294967295), (11, 2147483648, 2147485248), (2, 93, 0), (2, 104, 0), (11, 2147483648, 2147483678), (2, 89, 0), (2, 92, 0), (2, 119, 0), (2, 90, 0), (2, 94, 0), (2, 103, 0), (0, 0, 0), (11, 0, 4294967295), (11, 0, 4294967295), (11, 2147483648, 2147485249), (11, 2147483648, 2147483653), (11, 2147483648, 2147483668), (2, 85, 0), (11, 2147483648, 2147493647), (5, 0, 0), (2, 95, 0), (2, 96, 0), (2, 97, 0), (2, 98, 0), (2, 99, 0), (2, 101, 0), (2, 102, 0), (2, 105, 0), (2, 106, 0), (2, 107, 0), (2, 108, 0), (2, 109, 0), (2, 110, 0), (2, 111, 0), (11, 2147483648, 2147484768), (11, 2147482048, 2147483655), (11, 2147483648, 2147483738), (11, 2147483648, 2147483678), (11, 0, 4294967295), (11, 0, 4294967295), (11, 0, 4294967295), (11, 0, 4294967295), (11, 0, 4294967295), (2, 113, 0), (2, 116, 0), (2, 117, 0), (2, 121, 0), (11, 0, 4294967295), (11, 0, 4294967295), (2, 124, 0), (2, 125, 0), (11, 0, 4294967295), (2, 126, 0), (2, 127, 0), (2, 128, 0), (2, 129, 0), (2, 130, 0)])
def bn1069 : e2_Q1 := (bc195, bc3)
def bn1070 : e2_Q2 := (bn197, bn1069)
def bn1071 : e2_Q3 := (bn1070, bn447)
def bn1072 : e2_Q4 := (bn196, bn1071)
def bn1073 : e2_Q5 := (bn1072, bn219)
def bn1074 : e2_Q6 := (bn1073, bn251)
def bn1075 : e2_Q7 := (bn504, bn1074)
def bn1076 : e2_Q8 := (bn477, bn1075)
noncomputable def h_b115_4 : ev_H := (bn1076 : e2_Q8)
def bc196 : ev_C := (10, [(0, 0, 0), (2, 88, 0), (2, 115, 0), (2, 114, 0), (2, 86, 0), (2, 112, 0), (11, 2147483648, 2147483688), (2, 118, 0), (2, 120, 0), (2, 131, 0), (2, 91, 0), (11, 2147483648, 2147483653), (2, 123, 0), (11, 2147483648, 2147483649), (11, 2147483648, 2147485248), (2, 87, 0), (2, 84, 0), (2, 122, 0), (2, 100, 0), (2, 132, 0), (11, 2147483648, 2147483668), (11, 2147483648, 2147485248), (1, 0, 4294967296), (11, 0, 4294967295), (11, 2147483648, 2147485248), (2, 93, 0), (2, 104, 0), (11, 2147483648, 2147483678), (2, 89, 0), (2, 92, 0), (2, 119, 0), (2, 90, 0), (2, 94, 0), (2, 103, 0), (0, 0, 0), (11, 0, 4294967295), (11, 0, 4294967295), (11, 2147483648, 2147485249), (11, 2147483648, 2147483653), (11, 2147483648, 2147483668), (2, 85, 0), (11, 2147483648, 2147493647), (5, 0, 0), (2, 95, 0), (2, 96, 0), (2, 97, 0), (2, 98, 0), (2, 99, 0), (2, 101, 0), (2, 102, 0), (2, 105, 0), (2, 106, 0), (2, 107, 0), (2, 108, 0), (2, 109, 0), (2, 110, 0), (2, 111, 0), (11, 2147483648, 2147484768), (11, 2147482048, 2147483655), (11, 2147483648, 2147483738), (11, 2147483648, 2147483678), (11, 0, 4294967295), (11, 0, 4294967295), (11, 0, 4294967295), (11, 0, 4294967295), (11, 0, 4294967295), (2, 113, 0), (2, 116, 0), (2, 117, 0), (2, 121, 0), (11, 0, 4294967295), (11, 0, 4294967295), (2, 124, 0), (2, 125, 0), (11, 0, 4294967295), (2, 126, 0), (2, 127, 0), (2, 128, 0), (2, 129, 0), (2, 130, 0)])
def bn1077 : e2_Q1 := (bc196, bc3)
def bn1078 : e2_Q2 := (bn197, bn1077)
def bn1079 : e2_Q3 := (bn1078, bn447)
def bn1080 : e2_Q4 := (bn196, bn1079)
def bn1081 : e2_Q5 := (bn1080, bn219)
def bn1082 : e2_Q6 := (bn1081, bn251)
def bn1083 : e2_Q7 := (bn504, bn1082)
def bn1084 : e2_Q8 := (bn477, bn1083)
noncomputable def h_b115_5 : ev_H := (bn1084 : e2_Q8)
def bc197 : ev_C := (10, [(0, 0, 0), (2, 88, 0), (2, 115, 0), (2, 114, 0), (2, 86, 0), (2, 112, 0), (11, 2147483648, 2147483688), (2, 118, 0), (2, 120, 0), (2, 131, 0), (2, 91, 0), (11, 2147483648, 2147483654), (2, 123, 0), (11, 2147483648, 2147483649), (11, 2147483648, 2147485248), (2, 87, 0), (2, 84, 0), (2, 122, 0), (2, 100, 0), (2, 132, 0), (11, 2147483648, 2147483668), (11, 2147483648, 2147485248), (1, 0, 4294967296), (11, 0, 4294967295), (11, 2147483648, 2147485248), (2, 93, 0), (2, 104, 0), (11, 2147483648, 2147483678), (2, 89, 0), (2, 92, 0), (2, 119, 0), (2, 90, 0), (2, 94, 0), (2, 103, 0), (0, 0, 0), (11, 0, 4294967295), (11, 0, 4294967295), (11, 2147483648, 2147485249), (11, 2147483648, 2147483653), (11, 2147483648, 2147483668), (2, 85, 0), (11, 2147483648, 2147493647), (5, 0, 0), (2, 95, 0), (2, 96, 0), (2, 97, 0), (2, 98, 0), (2, 99, 0), (2, 101, 0), (2, 102, 0), (2, 105, 0), (2, 106, 0), (2, 107, 0), (2, 108, 0), (2, 109, 0), (2, 110, 0), (2, 111, 0), (11, 2147483648, 2147484768), (11, 2147482048, 2147483655), (11, 2147483648, 2147483738), (11, 2147483648, 2147483678), (11, 0, 4294967295), (11, 0, 4294967295), (11, 0, 4294967295), (11, 0, 4294967295), (11, 0, 4294967295), (2, 113, 0), (2, 116, 0), (2, 117, 0), (2, 121, 0), (11, 0, 4294967295), (11, 0, 4294967295), (2, 124, 0), (2, 125, 0), (11, 0, 4294967295), (2, 126, 0), (2, 127, 0), (2, 128, 0), (2, 129, 0), (2, 130, 0)])
def bn1085 : e2_Q1 := (bc197, bc3)
def bn1086 : e2_Q2 := (bn197, bn1085)
def bn1087 : e2_Q3 := (bn1086, bn447)
def bn1088 : e2_Q4 := (bn196, bn1087)
def bn1089 : e2_Q5 := (bn1088, bn219)
def bn1090 : e2_Q6 := (bn1089, bn251)
def bn1091 : e2_Q7 := (bn504, bn1090)
def bn1092 : e2_Q8 := (bn477, bn1091)
noncomputable def h_b115_6 : ev_H := (bn1092 : e2_Q8)
def bc198 : ev_C := (10, [(0, 0, 0), (2, 88, 0), (2, 115, 0), (2, 114, 0), (2, 86, 0), (2, 112, 0), (11, 2147483648, 2147483688), (2, 118, 0), (2, 120, 0), (2, 131, 0), (2, 91, 0), (11, 2147483648, 2147483655), (2, 123, 0), (11, 2147483648, 2147483649), (11, 2147483648, 2147485248), (2, 87, 0), (2, 84, 0), (2, 122, 0), (2, 100, 0), (2, 132, 0), (11, 2147483648, 2147483668), (11, 2147483648, 2147485248), (1, 0, 4294967296), (11, 0, 4294967295), (11, 2147483648, 2147485248), (2, 93, 0), (2, 104, 0), (11, 2147483648, 2147483678), (2, 89, 0), (2, 92, 0), (2, 119, 0), (2, 90, 0), (2, 94, 0), (2, 103, 0), (0, 0, 0), (11, 0, 4294967295), (11, 0, 4294967295), (11, 2147483648, 2147485249), (11, 2147483648, 2147483653), (11, 2147483648, 2147483668), (2, 85, 0), (11, 2147483648, 2147493647), (5, 0, 0), (2, 95, 0), (2, 96, 0), (2, 97, 0), (2, 98, 0), (2, 99, 0), (2, 101, 0), (2, 102, 0), (2, 105, 0), (2, 106, 0), (2, 107, 0), (2, 108, 0), (2, 109, 0), (2, 110, 0), (2, 111, 0), (11, 2147483648, 2147484768), (11, 2147482048, 2147483655), (11, 2147483648, 2147483738), (11, 2147483648, 2147483678), (11, 0, 4294967295), (11, 0, 4294967295), (11, 0, 4294967295), (11, 0, 4294967295), (11, 0, 4294967295), (2, 113, 0), (2, 116, 0), (2, 117, 0), (2, 121, 0), (11, 0, 4294967295), (11, 0, 4294967295), (2, 124, 0), (2, 125, 0), (11, 0, 4294967295), (2, 126, 0), (2, 127, 0), (2, 128, 0), (2, 129, 0), (2, 130, 0)])
def bn1093 : e2_Q1 := (bc198, bc3)
def bn1094 : e2_Q2 := (bn197, bn1093)
def bn1095 : e2_Q3 := (bn1094, bn447)
def bn1096 : e2_Q4 := (bn196, bn1095)
def bn1097 : e2_Q5 := (bn1096, bn219)
def bn1098 : e2_Q6 := (bn1097, bn251)
def bn1099 : e2_Q7 := (bn504, bn1098)
def bn1100 : e2_Q8 := (bn477, bn1099)
noncomputable def h_b115_7 : ev_H := (bn1100 : e2_Q8)
def bc199 : ev_C := (10, [(0, 0, 0), (2, 88, 0), (2, 115, 0), (2, 114, 0), (2, 86, 0), (2, 112, 0), (11, 2147483648, 2147483688), (2, 118, 0), (2, 120, 0), (2, 131, 0), (2, 91, 0), (11, 2147483648, 2147483656), (2, 123, 0), (11, 2147483648, 2147483649), (11, 2147483648, 2147485248), (2, 87, 0), (2, 84, 0), (2, 122, 0), (2, 100, 0), (2, 132, 0), (11, 2147483648, 2147483668), (11, 2147483648, 2147485248), (1, 0, 4294967296), (11, 0, 4294967295), (11, 2147483648, 2147485248), (2, 93, 0), (2, 104, 0), (11, 2147483648, 2147483678), (2, 89, 0), (2, 92, 0), (2, 119, 0), (2, 90, 0), (2, 94, 0), (2, 103, 0), (0, 0, 0), (11, 0, 4294967295), (11, 0, 4294967295), (11, 2147483648, 2147485249), (11, 2147483648, 2147483653), (11, 2147483648, 2147483668), (2, 85, 0), (11, 2147483648, 2147493647), (5, 0, 0), (2, 95, 0), (2, 96, 0), (2, 97, 0), (2, 98, 0), (2, 99, 0), (2, 101, 0), (2, 102, 0), (2, 105, 0), (2, 106, 0), (2, 107, 0), (2, 108, 0), (2, 109, 0), (2, 110, 0), (2, 111, 0), (11, 2147483648, 2147484768), (11, 2147482048, 2147483655), (11, 2147483648, 2147483738), (11, 2147483648, 2147483678), (11, 0, 4294967295), (11, 0, 4294967295), (11, 0, 4294967295), (11, 0, 4294967295), (11, 0, 4294967295), (2, 113, 0), (2, 116, 0), (2, 117, 0), (2, 121, 0), (11, 0, 4294967295), (11, 0, 4294967295), (2, 124, 0), (2, 125, 0), (11, 0, 4294967295), (2, 126, 0), (2, 127, 0), (2, 128, 0), (2, 129, 0), (2, 130, 0)])
def bn1101 : e2_Q1 := (bc199, bc3)
def bn1102 : e2_Q2 := (bn197, bn1101)
def bn1103 : e2_Q3 := (bn1102, bn447)
def bn1104 : e2_Q4 := (bn196, bn1103)
def bn1105 : e2_Q5 := (bn1104, bn219)
def bn1106 : e2_Q6 := (bn1105, bn251)
def bn1107 : e2_Q7 := (bn504, bn1106)
def bn1108 : e2_Q8 := (bn477, bn1107)
noncomputable def h_b115_8 : ev_H := (bn1108 : e2_Q8)
def bc200 : ev_C := (10, [(0, 0, 0), (2, 88, 0), (2, 115, 0), (2, 114, 0), (2, 86, 0), (2, 112, 0), (11, 2147483648, 2147483688), (2, 118, 0), (2, 120, 0), (2, 131, 0), (2, 91, 0), (11, 2147483648, 2147483657), (2, 123, 0), (11, 2147483648, 2147483649), (11, 2147483648, 2147485248), (2, 87, 0), (2, 84, 0), (2, 122, 0), (2, 100, 0), (2, 132, 0), (11, 2147483648, 2147483668), (11, 2147483648, 2147485248), (1, 0, 4294967296), (11, 0, 4294967295), (11, 2147483648, 2147485248), (2, 93, 0), (2, 104, 0), (11, 2147483648, 2147483678), (2, 89, 0), (2, 92, 0), (2, 119, 0), (2, 90, 0), (2, 94, 0), (2, 103, 0), (0, 0, 0), (11, 0, 4294967295), (11, 0, 4294967295), (11, 2147483648, 2147485249), (11, 2147483648, 2147483653), (11, 2147483648, 2147483668), (2, 85, 0), (11, 2147483648, 2147493647), (5, 0, 0), (2, 95, 0), (2, 96, 0), (2, 97, 0), (2, 98, 0), (2, 99, 0), (2, 101, 0), (2, 102, 0), (2, 105, 0), (2, 106, 0), (2, 107, 0), (2, 108, 0), (2, 109, 0), (2, 110, 0), (2, 111, 0), (11, 2147483648, 2147484768), (11, 2147482048, 2147483655), (11, 2147483648, 2147483738), (11, 2147483648, 2147483678), (11, 0, 4294967295), (11, 0, 4294967295), (11, 0, 4294967295), (11, 0, 4294967295), (11, 0, 4294967295), (2, 113, 0), (2, 116, 0), (2, 117, 0), (2, 121, 0), (11, 0, 4294967295), (11, 0, 4294967295), (2, 124, 0), (2, 125, 0), (11, 0, 4294967295), (2, 126, 0), (2, 127, 0), (2, 128, 0), (2, 129, 0), (2, 130, 0)])
def bn1109 : e2_Q1 := (bc200, bc3)
def bn1110 : e2_Q2 := (bn197, bn1109)
def bn1111 : e2_Q3 := (bn1110, bn447)
def bn1112 : e2_Q4 := (bn196, bn1111)
def bn1113 : e2_Q5 := (bn1112, bn219)
def bn1114 : e2_Q6 := (bn1113, bn251)
def bn1115 : e2_Q7 := (bn504, bn1114)
def bn1116 : e2_Q8 := (bn477, bn1115)
noncomputable def h_b115_9 : ev_H := (bn1116 : e2_Q8)
def bc201 : ev_C := (10, [(0, 0, 0), (2, 88, 0), (2, 115, 0), (2, 114, 0), (2, 86, 0), (2, 112, 0), (11, 2147483648, 2147483688), (2, 118, 0), (2, 120, 0), (2, 131, 0), (2, 91, 0), (11, 2147483648, 2147483658), (2, 123, 0), (11, 2147483648, 2147483649), (11, 2147483648, 2147485248), (2, 87, 0), (2, 84, 0), (2, 122, 0), (2, 100, 0), (2, 132, 0), (11, 2147483648, 2147483668), (11, 2147483648, 2147485248), (1, 0, 4294967296), (11, 0, 4294967295), (11, 2147483648, 2147485248), (2, 93, 0), (2, 104, 0), (11, 2147483648, 2147483678), (2, 89, 0), (2, 92, 0), (2, 119, 0), (2, 90, 0), (2, 94, 0), (2, 103, 0), (0, 0, 0), (11, 0, 4294967295), (11, 0, 4294967295), (11, 2147483648, 2147485249), (11, 2147483648, 2147483653), (11, 2147483648, 2147483668), (2, 85, 0), (11, 2147483648, 2147493647), (5, 0, 0), (2, 95, 0), (2, 96, 0), (2, 97, 0), (2, 98, 0), (2, 99, 0), (2, 101, 0), (2, 102, 0), (2, 105, 0), (2, 106, 0), (2, 107, 0), (2, 108, 0), (2, 109, 0), (2, 110, 0), (2, 111, 0), (11, 2147483648, 2147484768), (11, 2147482048, 2147483655), (11, 2147483648, 2147483738), (11, 2147483648, 2147483678), (11, 0, 4294967295), (11, 0, 4294967295), (11, 0, 4294967295), (11, 0, 4294967295), (11, 0, 4294967295), (2, 113, 0), (2, 116, 0), (2, 117, 0), (2, 121, 0), (11, 0, 4294967295), (11, 0, 4294967295), (2, 124, 0), (2, 125, 0), (11, 0, 4294967295), (2, 126, 0), (2, 127, 0), (2, 128, 0), (2, 129, 0), (2, 130, 0)])
def bn1117 : e2_Q1 := (bc201, bc3)
def bn1118 : e2_Q2 := (bn197, bn1117)
def bn1119 : e2_Q3 := (bn1118, bn447)
def bn1120 : e2_Q4 := (bn196, bn1119)
def bn1121 : e2_Q5 := (bn1120, bn219)
def bn1122 : e2_Q6 := (bn1121, bn251)
def bn1123 : e2_Q7 := (bn504, bn1122)
def bn1124 : e2_Q8 := (bn477, bn1123)
noncomputable def h_b115_10 : ev_H := (bn1124 : e2_Q8)
def bc202 : ev_C := (10, [(0, 0, 0), (2, 88, 0), (2, 115, 0), (2, 114, 0), (2, 86, 0), (2, 112, 0), (11, 2147483648, 2147483688), (2, 118, 0), (2, 120, 0), (2, 131, 0), (2, 91, 0), (11, 2147483648, 2147483659), (2, 123, 0), (11, 2147483648, 2147483649), (11, 2147483648, 2147485248), (2, 87, 0), (2, 84, 0), (2, 122, 0), (2, 100, 0), (2, 132, 0), (11, 2147483648, 2147483668), (11, 2147483648, 2147485248), (1, 0, 4294967296), (11, 0, 4294967295), (11, 2147483648, 2147485248), (2, 93, 0), (2, 104, 0), (11, 2147483648, 2147483678), (2, 89, 0), (2, 92, 0), (2, 119, 0), (2, 90, 0), (2, 94, 0), (2, 103, 0), (0, 0, 0), (11, 0, 4294967295), (11, 0, 4294967295), (11, 2147483648, 2147485249), (11, 2147483648, 2147483653), (11, 2147483648, 2147483668), (2, 85, 0), (11, 2147483648, 2147493647), (5, 0, 0), (2, 95, 0), (2, 96, 0), (2, 97, 0), (2, 98, 0), (2, 99, 0), (2, 101, 0), (2, 102, 0), (2, 105, 0), (2, 106, 0), (2, 107, 0), (2, 108, 0), (2, 109, 0), (2, 110, 0), (2, 111, 0), (11, 2147483648, 2147484768), (11, 2147482048, 2147483655), (11, 2147483648, 2147483738), (11, 2147483648, 2147483678), (11, 0, 4294967295), (11, 0, 4294967295), (11, 0, 4294967295), (11, 0, 4294967295), (11, 0, 4294967295), (2, 113, 0), (2, 116, 0), (2, 117, 0), (2, 121, 0), (11, 0, 4294967295), (11, 0, 4294967295), (2, 124, 0), (2, 125, 0), (11, 0, 4294967295), (2, 126, 0), (2, 127, 0), (2, 128, 0), (2, 129, 0), (2, 130, 0)])
def bn1125 : e2_Q1 := (bc202, bc3)
def bn1126 : e2_Q2 := (bn197, bn1125)
def bn1127 : e2_Q3 := (bn1126, bn447)
def bn1128 : e2_Q4 := (bn196, bn1127)
def bn1129 : e2_Q5 := (bn1128, bn219)
def bn1130 : e2_Q6 := (bn1129, bn251)
def bn1131 : e2_Q7 := (bn504, bn1130)
def bn1132 : e2_Q8 := (bn477, bn1131)
noncomputable def h_b115_11 : ev_H := (bn1132 : e2_Q8)
def bc203 : ev_C := (10, [(0, 0, 0), (2, 88, 0), (2, 115, 0), (2, 114, 0), (2, 86, 0), (2, 112, 0), (11, 2147483648, 2147483688), (2, 118, 0), (2, 120, 0), (2, 131, 0), (2, 91, 0), (11, 2147483648, 2147483660), (2, 123, 0), (11, 2147483648, 2147483649), (11, 2147483648, 2147485248), (2, 87, 0), (2, 84, 0), (2, 122, 0), (2, 100, 0), (2, 132, 0), (11, 2147483648, 2147483668), (11, 2147483648, 2147485248), (1, 0, 4294967296), (11, 0, 4294967295), (11, 2147483648, 2147485248), (2, 93, 0), (2, 104, 0), (11, 2147483648, 2147483678), (2, 89, 0), (2, 92, 0), (2, 119, 0), (2, 90, 0), (2, 94, 0), (2, 103, 0), (0, 0, 0), (11, 0, 4294967295), (11, 0, 4294967295), (11, 2147483648, 2147485249), (11, 2147483648, 2147483653), (11, 2147483648, 2147483668), (2, 85, 0), (11, 2147483648, 2147493647), (5, 0, 0), (2, 95, 0), (2, 96, 0), (2, 97, 0), (2, 98, 0), (2, 99, 0), (2, 101, 0), (2, 102, 0), (2, 105, 0), (2, 106, 0), (2, 107, 0), (2, 108, 0), (2, 109, 0), (2, 110, 0), (2, 111, 0), (11, 2147483648, 2147484768), (11, 2147482048, 2147483655), (11, 2147483648, 2147483738), (11, 2147483648, 2147483678), (11, 0, 4294967295), (11, 0, 4294967295), (11, 0, 4294967295), (11, 0, 4294967295), (11, 0, 4294967295), (2, 113, 0), (2, 116, 0), (2, 117, 0), (2, 121, 0), (11, 0, 4294967295), (11, 0, 4294967295), (2, 124, 0), (2, 125, 0), (11, 0, 4294967295), (2, 126, 0), (2, 127, 0), (2, 128, 0), (2, 129, 0), (2, 130, 0)])
def bn1133 : e2_Q1 := (bc203, bc3)
def bn1134 : e2_Q2 := (bn197, bn1133)
def bn1135 : e2_Q3 := (bn1134, bn447)
def bn1136 : e2_Q4 := (bn196, bn1135)
def bn1137 : e2_Q5 := (bn1136, bn219)
def bn1138 : e2_Q6 := (bn1137, bn251)
def bn1139 : e2_Q7 := (bn504, bn1138)
def bn1140 : e2_Q8 := (bn477, bn1139)
noncomputable def h_b115_12 : ev_H := (bn1140 : e2_Q8)
def bc204 : ev_C := (10, [(0, 0, 0), (2, 88, 0), (2, 115, 0), (2, 114, 0), (2, 86, 0), (2, 112, 0), (11, 2147483648, 2147483688), (2, 118, 0), (2, 120, 0), (2, 131, 0), (2, 91, 0), (11, 2147483648, 2147483661), (2, 123, 0), (11, 2147483648, 2147483649), (11, 2147483648, 2147485248), (2, 87, 0), (2, 84, 0), (2, 122, 0), (2, 100, 0), (2, 132, 0), (11, 2147483648, 2147483668), (11, 2147483648, 2147485248), (1, 0, 4294967296), (11, 0, 4294967295), (11, 2147483648, 2147485248), (2, 93, 0), (2, 104, 0), (11, 2147483648, 2147483678), (2, 89, 0), (2, 92, 0), (2, 119, 0), (2, 90, 0), (2, 94, 0), (2, 103, 0), (0, 0, 0), (11, 0, 4294967295), (11, 0, 4294967295), (11, 2147483648, 2147485249), (11, 2147483648, 2147483653), (11, 2147483648, 2147483668), (2, 85, 0), (11, 2147483648, 2147493647), (5, 0, 0), (2, 95, 0), (2, 96, 0), (2, 97, 0), (2, 98, 0), (2, 99, 0), (2, 101, 0), (2, 102, 0), (2, 105, 0), (2, 106, 0), (2, 107, 0), (2, 108, 0), (2, 109, 0), (2, 110, 0), (2, 111, 0), (11, 2147483648, 2147484768), (11, 2147482048, 2147483655), (11, 2147483648, 2147483738), (11, 2147483648, 2147483678), (11, 0, 4294967295), (11, 0, 4294967295), (11, 0, 4294967295), (11, 0, 4294967295), (11, 0, 4294967295), (2, 113, 0), (2, 116, 0), (2, 117, 0), (2, 121, 0), (11, 0, 4294967295), (11, 0, 4294967295), (2, 124, 0), (2, 125, 0), (11, 0, 4294967295), (2, 126, 0), (2, 127, 0), (2, 128, 0), (2, 129, 0), (2, 130, 0)])
def bn1141 : e2_Q1 := (bc204, bc3)
def bn1142 : e2_Q2 := (bn197, bn1141)
def bn1143 : e2_Q3 := (bn1142, bn447)
def bn1144 : e2_Q4 := (bn196, bn1143)
def bn1145 : e2_Q5 := (bn1144, bn219)
def bn1146 : e2_Q6 := (bn1145, bn251)
def bn1147 : e2_Q7 := (bn504, bn1146)
def bn1148 : e2_Q8 := (bn477, bn1147)
noncomputable def h_b115_13 : ev_H := (bn1148 : e2_Q8)
def bc205 : ev_C := (10, [(0, 0, 0), (2, 88, 0), (2, 115, 0), (2, 114, 0), (2, 86, 0), (2, 112, 0), (11, 2147483648, 2147483688), (2, 118, 0), (2, 120, 0), (2, 131, 0), (2, 91, 0), (11, 2147483648, 2147483662), (2, 123, 0), (11, 2147483648, 2147483649), (11, 2147483648, 2147485248), (2, 87, 0), (2, 84, 0), (2, 122, 0), (2, 100, 0), (2, 132, 0), (11, 2147483648, 2147483668), (11, 2147483648, 2147485248), (1, 0, 4294967296), (11, 0, 4294967295), (11, 2147483648, 2147485248), (2, 93, 0), (2, 104, 0), (11, 2147483648, 2147483678), (2, 89, 0), (2, 92, 0), (2, 119, 0), (2, 90, 0), (2, 94, 0), (2, 103, 0), (0, 0, 0), (11, 0, 4294967295), (11, 0, 4294967295), (11, 2147483648, 2147485249), (11, 2147483648, 2147483653), (11, 2147483648, 2147483668), (2, 85, 0), (11, 2147483648, 2147493647), (5, 0, 0), (2, 95, 0), (2, 96, 0), (2, 97, 0), (2, 98, 0), (2, 99, 0), (2, 101, 0), (2, 102, 0), (2, 105, 0), (2, 106, 0), (2, 107, 0), (2, 108, 0), (2, 109, 0), (2, 110, 0), (2, 111, 0), (11, 2147483648, 2147484768), (11, 2147482048, 2147483655), (11, 2147483648, 2147483738), (11, 2147483648, 2147483678), (11, 0, 4294967295), (11, 0, 4294967295), (11, 0, 4294967295), (11, 0, 4294967295), (11, 0, 4294967295), (2, 113, 0), (2, 116, 0), (2, 117, 0), (2, 121, 0), (11, 0, 4294967295), (11, 0, 4294967295), (2, 124, 0), (2, 125, 0), (11, 0, 4294967295), (2, 126, 0), (2, 127, 0), (2, 128, 0), (2, 129, 0), (2, 130, 0)])
def bn1149 : e2_Q1 := (bc205, bc3)
def bn1150 : e2_Q2 := (bn197, bn1149)
def bn1151 : e2_Q3 := (bn1150, bn447)
def bn1152 : e2_Q4 := (bn196, bn1151)
def bn1153 : e2_Q5 := (bn1152, bn219)
def bn1154 : e2_Q6 := (bn1153, bn251)
def bn1155 : e2_Q7 := (bn504, bn1154)
def bn1156 : e2_Q8 := (bn477, bn1155)
noncomputable def h_b115_14 : ev_H := (bn1156 : e2_Q8)
def bc206 : ev_C := (10, [(0, 0, 0), (2, 88, 0), (2, 115, 0), (2, 114, 0), (2, 86, 0), (2, 112, 0), (11, 2147483648, 2147483688), (2, 118, 0), (2, 120, 0), (2, 131, 0), (2, 91, 0), (11, 2147483648, 2147483663), (2, 123, 0), (11, 2147483648, 2147483649), (11, 2147483648, 2147485248), (2, 87, 0), (2, 84, 0), (2, 122, 0), (2, 100, 0), (2, 132, 0), (11, 2147483648, 2147483668), (11, 2147483648, 2147485248), (1, 0, 4294967296), (11, 0, 4294967295), (11, 2147483648, 2147485248), (2, 93, 0), (2, 104, 0), (11, 2147483648, 2147483678), (2, 89, 0), (2, 92, 0), (2, 119, 0), (2, 90, 0), (2, 94, 0), (2, 103, 0), (0, 0, 0), (11, 0, 4294967295), (11, 0, 4294967295), (11, 2147483648, 2147485249), (11, 2147483648, 2147483653), (11, 2147483648, 2147483668), (2, 85, 0), (11, 2147483648, 2147493647), (5, 0, 0), (2, 95, 0), (2, 96, 0), (2, 97, 0), (2, 98, 0), (2, 99, 0), (2, 101, 0), (2, 102, 0), (2, 105, 0), (2, 106, 0), (2, 107, 0), (2, 108, 0), (2, 109, 0), (2, 110, 0), (2, 111, 0), (11, 2147483648, 2147484768), (11, 2147482048, 2147483655), (11, 2147483648, 2147483738), (11, 2147483648, 2147483678), (11, 0, 4294967295), (11, 0, 4294967295), (11, 0, 4294967295), (11, 0, 4294967295), (11, 0, 4294967295), (2, 113, 0), (2, 116, 0), (2, 117, 0), (2, 121, 0), (11, 0, 4294967295), (11, 0, 4294967295), (2, 124, 0), (2, 125, 0), (11, 0, 4294967295), (2, 126, 0), (2, 127, 0), (2, 128, 0), (2, 129, 0), (2, 130, 0)])
def bn1157 : e2_Q1 := (bc206, bc3)
def bn1158 : e2_Q2 := (bn197, bn1157)
def bn1159 : e2_Q3 := (bn1158, bn447)
def bn1160 : e2_Q4 := (bn196, bn1159)
def bn1161 : e2_Q5 := (bn1160, bn219)
def bn1162 : e2_Q6 := (bn1161, bn251)
def bn1163 : e2_Q7 := (bn504, bn1162)
def bn1164 : e2_Q8 := (bn477, bn1163)
noncomputable def h_b115_15 : ev_H := (bn1164 : e2_Q8)
def bc207 : ev_C := (10, [(0, 0, 0), (2, 88, 0), (2, 115, 0), (2, 114, 0), (2, 86, 0), (2, 112, 0), (11, 2147483648, 2147483688), (2, 118, 0), (2, 120, 0), (2, 131, 0), (2, 91, 0), (11, 2147483648, 2147483664), (2, 123, 0), (11, 2147483648, 2147483649), (11, 2147483648, 2147485248), (2, 87, 0), (2, 84, 0), (2, 122, 0), (2, 100, 0), (2, 132, 0), (11, 2147483648, 2147483668), (11, 2147483648, 2147485248), (1, 0, 4294967296), (11, 0, 4294967295), (11, 2147483648, 2147485248), (2, 93, 0), (2, 104, 0), (11, 2147483648, 2147483678), (2, 89, 0), (2, 92, 0), (2, 119, 0), (2, 90, 0), (2, 94, 0), (2, 103, 0), (0, 0, 0), (11, 0, 4294967295), (11, 0, 4294967295), (11, 2147483648, 2147485249), (11, 2147483648, 2147483653), (11, 2147483648, 2147483668), (2, 85, 0), (11, 2147483648, 2147493647), (5, 0, 0), (2, 95, 0), (2, 96, 0), (2, 97, 0), (2, 98, 0), (2, 99, 0), (2, 101, 0), (2, 102, 0), (2, 105, 0), (2, 106, 0), (2, 107, 0), (2, 108, 0), (2, 109, 0), (2, 110, 0), (2, 111, 0), (11, 2147483648, 2147484768), (11, 2147482048, 2147483655), (11, 2147483648, 2147483738), (11, 2147483648, 2147483678), (11, 0, 4294967295), (11, 0, 4294967295), (11, 0, 4294967295), (11, 0, 4294967295), (11, 0, 4294967295), (2, 113, 0), (2, 116, 0), (2, 117, 0), (2, 121, 0), (11, 0, 4294967295), (11, 0, 4294967295), (2, 124, 0), (2, 125, 0), (11, 0, 4294967295), (2, 126, 0), (2, 127, 0), (2, 128, 0), (2, 129, 0), (2, 130, 0)])
def bn1165 : e2_Q1 := (bc207, bc3)
def bn1166 : e2_Q2 := (bn197, bn1165)
def bn1167 : e2_Q3 := (bn1166, bn447)
def bn1168 : e2_Q4 := (bn196, bn1167)
def bn1169 : e2_Q5 := (bn1168, bn219)
def bn1170 : e2_Q6 := (bn1169, bn251)
def bn1171 : e2_Q7 := (bn504, bn1170)
def bn1172 : e2_Q8 := (bn477, bn1171)
noncomputable def h_b115_16 : ev_H := (bn1172 : e2_Q8)
def bc208 : ev_C := (10, [(0, 0, 0), (2, 88, 0), (2, 115, 0), (2, 114, 0), (2, 86, 0), (2, 112, 0), (11, 2147483648, 2147483688), (2, 118, 0), (2, 120, 0), (2, 131, 0), (2, 91, 0), (11, 2147483648, 2147483665), (2, 123, 0), (11, 2147483648, 2147483649), (11, 2147483648, 2147485248), (2, 87, 0), (2, 84, 0), (2, 122, 0), (2, 100, 0), (2, 132, 0), (11, 2147483648, 2147483668), (11, 2147483648, 2147485248), (1, 0, 4294967296), (11, 0, 4294967295), (11, 2147483648, 2147485248), (2, 93, 0), (2, 104, 0), (11, 2147483648, 2147483678), (2, 89, 0), (2, 92, 0), (2, 119, 0), (2, 90, 0), (2, 94, 0), (2, 103, 0), (0, 0, 0), (11, 0, 4294967295), (11, 0, 4294967295), (11, 2147483648, 2147485249), (11, 2147483648, 2147483653), (11, 2147483648, 2147483668), (2, 85, 0), (11, 2147483648, 2147493647), (5, 0, 0), (2, 95, 0), (2, 96, 0), (2, 97, 0), (2, 98, 0), (2, 99, 0), (2, 101, 0), (2, 102, 0), (2, 105, 0), (2, 106, 0), (2, 107, 0), (2, 108, 0), (2, 109, 0), (2, 110, 0), (2, 111, 0), (11, 2147483648, 2147484768), (11, 2147482048, 2147483655), (11, 2147483648, 2147483738), (11, 2147483648, 2147483678), (11, 0, 4294967295), (11, 0, 4294967295), (11, 0, 4294967295), (11, 0, 4294967295), (11, 0, 4294967295), (2, 113, 0), (2, 116, 0), (2, 117, 0), (2, 121, 0), (11, 0, 4294967295), (11, 0, 4294967295), (2, 124, 0), (2, 125, 0), (11, 0, 4294967295), (2, 126, 0), (2, 127, 0), (2, 128, 0), (2, 129, 0), (2, 130, 0)])
def bn1173 : e2_Q1 := (bc208, bc3)
def bn1174 : e2_Q2 := (bn197, bn1173)
def bn1175 : e2_Q3 := (bn1174, bn447)
def bn1176 : e2_Q4 := (bn196, bn1175)
def bn1177 : e2_Q5 := (bn1176, bn219)
def bn1178 : e2_Q6 := (bn1177, bn251)
def bn1179 : e2_Q7 := (bn504, bn1178)
def bn1180 : e2_Q8 := (bn477, bn1179)
noncomputable def h_b115_17 : ev_H := (bn1180 : e2_Q8)
def bc209 : ev_C := (10, [(0, 0, 0), (2, 88, 0), (2, 115, 0), (2, 114, 0), (2, 86, 0), (2, 112, 0), (11, 2147483648, 2147483688), (2, 118, 0), (2, 120, 0), (2, 131, 0), (2, 91, 0), (11, 2147483648, 2147483666), (2, 123, 0), (11, 2147483648, 2147483649), (11, 2147483648, 2147485248), (2, 87, 0), (2, 84, 0), (2, 122, 0), (2, 100, 0), (2, 132, 0), (11, 2147483648, 2147483668), (11, 2147483648, 2147485248), (1, 0, 4294967296), (11, 0, 4294967295), (11, 2147483648, 2147485248), (2, 93, 0), (2, 104, 0), (11, 2147483648, 2147483678), (2, 89, 0), (2, 92, 0), (2, 119, 0), (2, 90, 0), (2, 94, 0), (2, 103, 0), (0, 0, 0), (11, 0, 4294967295), (11, 0, 4294967295), (11, 2147483648, 2147485249), (11, 2147483648, 2147483653), (11, 2147483648, 2147483668), (2, 85, 0), (11, 2147483648, 2147493647), (5, 0, 0), (2, 95, 0), (2, 96, 0), (2, 97, 0), (2, 98, 0), (2, 99, 0), (2, 101, 0), (2, 102, 0), (2, 105, 0), (2, 106, 0), (2, 107, 0), (2, 108, 0), (2, 109, 0), (2, 110, 0), (2, 111, 0), (11, 2147483648, 2147484768), (11, 2147482048, 2147483655), (11, 2147483648, 2147483738), (11, 2147483648, 2147483678), (11, 0, 4294967295), (11, 0, 4294967295), (11, 0, 4294967295), (11, 0, 4294967295), (11, 0, 4294967295), (2, 113, 0), (2, 116, 0), (2, 117, 0), (2, 121, 0), (11, 0, 4294967295), (11, 0, 4294967295), (2, 124, 0), (2, 125, 0), (11, 0, 4294967295), (2, 126, 0), (2, 127, 0), (2, 128, 0), (2, 129, 0), (2, 130, 0)])
def bn1181 : e2_Q1 := (bc209, bc3)
def bn1182 : e2_Q2 := (bn197, bn1181)
def bn1183 : e2_Q3 := (bn1182, bn447)
def bn1184 : e2_Q4 := (bn196, bn1183)
def bn1185 : e2_Q5 := (bn1184, bn219)
def bn1186 : e2_Q6 := (bn1185, bn251)
def bn1187 : e2_Q7 := (bn504, bn1186)
def bn1188 : e2_Q8 := (bn477, bn1187)
noncomputable def h_b115_18 : ev_H := (bn1188 : e2_Q8)
def bc210 : ev_C := (10, [(0, 0, 0), (2, 88, 0), (2, 115, 0), (2, 114, 0), (2, 86, 0), (2, 112, 0), (11, 2147483648, 2147483688), (2, 118, 0), (2, 120, 0), (2, 131, 0), (2, 91, 0), (11, 2147483648, 2147483667), (2, 123, 0), (11, 2147483648, 2147483649), (11, 2147483648, 2147485248), (2, 87, 0), (2, 84, 0), (2, 122, 0), (2, 100, 0), (2, 132, 0), (11, 2147483648, 2147483668), (11, 2147483648, 2147485248), (1, 0, 4294967296), (11, 0, 4294967295), (11, 2147483648, 2147485248), (2, 93, 0), (2, 104, 0), (11, 2147483648, 2147483678), (2, 89, 0), (2, 92, 0), (2, 119, 0), (2, 90, 0), (2, 94, 0), (2, 103, 0), (0, 0, 0), (11, 0, 4294967295), (11, 0, 4294967295), (11, 2147483648, 2147485249), (11, 2147483648, 2147483653), (11, 2147483648, 2147483668), (2, 85, 0), (11, 2147483648, 2147493647), (5, 0, 0), (2, 95, 0), (2, 96, 0), (2, 97, 0), (2, 98, 0), (2, 99, 0), (2, 101, 0), (2, 102, 0), (2, 105, 0), (2, 106, 0), (2, 107, 0), (2, 108, 0), (2, 109, 0), (2, 110, 0), (2, 111, 0), (11, 2147483648, 2147484768), (11, 2147482048, 2147483655), (11, 2147483648, 2147483738), (11, 2147483648, 2147483678), (11, 0, 4294967295), (11, 0, 4294967295), (11, 0, 4294967295), (11, 0, 4294967295), (11, 0, 4294967295), (2, 113, 0), (2, 116, 0), (2, 117, 0), (2, 121, 0), (11, 0, 4294967295), (11, 0, 4294967295), (2, 124, 0), (2, 125, 0), (11, 0, 4294967295), (2, 126, 0), (2, 127, 0), (2, 128, 0), (2, 129, 0), (2, 130, 0)])
def bn1189 : e2_Q1 := (bc210, bc3)
def bn1190 : e2_Q2 := (bn197, bn1189)
def bn1191 : e2_Q3 := (bn1190, bn447)
def bn1192 : e2_Q4 := (bn196, bn1191)
def bn1193 : e2_Q5 := (bn1192, bn219)
def bn1194 : e2_Q6 := (bn1193, bn251)
def bn1195 : e2_Q7 := (bn504, bn1194)
def bn1196 : e2_Q8 := (bn477, bn1195)
noncomputable def h_b115_19 : ev_H := (bn1196 : e2_Q8)
noncomputable def h_b115_20 : ev_H := (bn1042 : e2_Q8)
def bc211 : ev_C := (10, [(0, 0, 0), (2, 88, 0), (2, 115, 0), (2, 114, 0), (2, 86, 0), (2, 112, 0), (11, 2147483648, 2147483688), (2, 118, 0), (2, 120, 0), (2, 131, 0), (2, 91, 0), (11, 2147483649, 2147483668), (2, 123, 0), (11, 2147483648, 2147483649), (11, 2147483648, 2147485248), (2, 87, 0), (2, 84, 0), (2, 122, 0), (2, 100, 0), (2, 132, 0), (11, 2147483648, 2147483668), (11, 2147483648, 2147485248), (1, 0, 4294967296), (11, 0, 4294967295), (11, 2147483648, 2147485248), (2, 93, 0), (2, 104, 0), (11, 2147483648, 2147483678), (2, 89, 0), (2, 92, 0), (2, 119, 0), (2, 90, 0), (2, 94, 0), (2, 103, 0), (0, 0, 0), (11, 0, 4294967295), (11, 0, 4294967295), (11, 2147483648, 2147485249), (11, 2147483648, 2147483653), (11, 2147483648, 2147483668), (2, 85, 0), (11, 2147483648, 2147493647), (5, 0, 0), (2, 95, 0), (2, 96, 0), (2, 97, 0), (2, 98, 0), (2, 99, 0), (2, 101, 0), (2, 102, 0), (2, 105, 0), (2, 106, 0), (2, 107, 0), (2, 108, 0), (2, 109, 0), (2, 110, 0), (2, 111, 0), (11, 2147483648, 2147484768), (11, 2147482048, 2147483655), (11, 2147483648, 2147483738), (11, 2147483648, 2147483678), (11, 0, 4294967295), (11, 0, 4294967295), (11, 0, 4294967295), (11, 0, 4294967295), (11, 0, 4294967295), (2, 113, 0), (2, 116, 0), (2, 117, 0), (2, 121, 0), (11, 0, 4294967295), (11, 0, 4294967295), (2, 124, 0), (2, 125, 0), (11, 0, 4294967295), (2, 126, 0), (2, 127, 0), (2, 128, 0), (2, 129, 0), (2, 130, 0)])
def bn1197 : e2_Q1 := (bc211, bc3)
def bn1198 : e2_Q2 := (bn197, bn1197)
def bn1199 : e2_Q3 := (bn1198, bn447)
def bn1200 : e2_Q4 := (bn196, bn1199)
def bn1201 : e2_Q5 := (bn1200, bn219)
def bn1202 : e2_Q6 := (bn1201, bn251)
def bn1203 : e2_Q7 := (bn504, bn1202)
def bn1204 : e2_Q8 := (bn477, bn1203)
noncomputable def h_b115_21 : ev_H := (bn1204 : e2_Q8)
noncomputable def h_b115_22 : ev_H := (bn1204 : e2_Q8)
noncomputable def h_b115_23 : ev_H := (bn1204 : e2_Q8)
noncomputable def h_b115_24 : ev_H := (bn1204 : e2_Q8)
noncomputable def h_b115_25 : ev_H := (bn1204 : e2_Q8)
noncomputable def cu_b115_120 : List e2_Cu := [([(2, 83, 0), (11, 0, 4294967295), (0, 0, 0), (0, 8, 0), (9, 0, 0)], [(2147483648, 2147583648, 0, 0), (2147483649, 2147483649, 1, 0), (2147483648, 2147483688, 2, 0), (2147483648, 2147483688, 3, 0)], h_b115_0),
  ([(2, 83, 0), (11, 0, 4294967295), (0, 1, 0), (11, 2147483648, 2147483656), (11, 2147483647, 2147483648)], [(2147483648, 2147583648, 0, 0), (2147483649, 2147483649, 1, 0), (2147483648, 2147483688, 2, 0), (2147483648, 2147483688, 3, 0)], h_b115_1),
  ([(2, 83, 0), (11, 0, 4294967295), (0, 2, 0), (11, 2147483648, 2147483656), (11, 2147483647, 2147483648)], [(2147483648, 2147583648, 0, 0), (2147483649, 2147483649, 1, 0), (2147483648, 2147483688, 2, 0), (2147483648, 2147483688, 3, 0)], h_b115_2),
  ([(2, 83, 0), (11, 0, 4294967295), (0, 3, 0), (11, 2147483648, 2147483656), (11, 2147483647, 2147483648)], [(2147483648, 2147583648, 0, 0), (2147483649, 2147483649, 1, 0), (2147483648, 2147483688, 2, 0), (2147483648, 2147483688, 3, 0)], h_b115_3),
  ([(2, 83, 0), (11, 0, 4294967295), (0, 4, 0), (11, 2147483648, 2147483656), (11, 2147483647, 2147483648)], [(2147483648, 2147583648, 0, 0), (2147483649, 2147483649, 1, 0), (2147483648, 2147483688, 2, 0), (2147483648, 2147483688, 3, 0)], h_b115_4),
  ([(2, 83, 0), (11, 0, 4294967295), (0, 5, 0), (11, 2147483648, 2147483656), (11, 2147483647, 2147483648)], [(2147483648, 2147583648, 0, 0), (2147483649, 2147483649, 1, 0), (2147483648, 2147483688, 2, 0), (2147483648, 2147483688, 3, 0)], h_b115_5),
  ([(2, 83, 0), (11, 0, 4294967295), (0, 6, 0), (11, 2147483648, 2147483656), (11, 2147483647, 2147483648)], [(2147483648, 2147583648, 0, 0), (2147483649, 2147483649, 1, 0), (2147483648, 2147483688, 2, 0), (2147483648, 2147483688, 3, 0)], h_b115_6),
  ([(2, 83, 0), (11, 0, 4294967295), (0, 7, 0), (11, 2147483648, 2147483656), (11, 2147483647, 2147483648)], [(2147483648, 2147583648, 0, 0), (2147483649, 2147483649, 1, 0), (2147483648, 2147483688, 2, 0), (2147483648, 2147483688, 3, 0)], h_b115_7),
  ([(2, 83, 0), (11, 0, 4294967295), (0, 8, 0), (11, 2147483648, 2147483656), (11, 2147483647, 2147483648)], [(2147483648, 2147583648, 0, 0), (2147483649, 2147483649, 1, 0), (2147483648, 2147483688, 2, 0), (2147483648, 2147483688, 3, 0)], h_b115_8),
  ([(2, 83, 0), (11, 0, 4294967295), (0, 9, 0), (11, 2147483648, 2147483656), (11, 2147483647, 2147483648)], [(2147483648, 2147583648, 0, 0), (2147483649, 2147483649, 1, 0), (2147483648, 2147483688, 2, 0), (2147483648, 2147483688, 3, 0)], h_b115_9),
  ([(2, 83, 0), (11, 0, 4294967295), (0, 10, 0), (11, 2147483648, 2147483656), (11, 2147483647, 2147483648)], [(2147483648, 2147583648, 0, 0), (2147483649, 2147483649, 1, 0), (2147483648, 2147483688, 2, 0), (2147483648, 2147483688, 3, 0)], h_b115_10),
  ([(2, 83, 0), (11, 0, 4294967295), (0, 11, 0), (11, 2147483648, 2147483656), (11, 2147483647, 2147483648)], [(2147483648, 2147583648, 0, 0), (2147483649, 2147483649, 1, 0), (2147483648, 2147483688, 2, 0), (2147483648, 2147483688, 3, 0)], h_b115_11),
  ([(2, 83, 0), (11, 0, 4294967295), (0, 12, 0), (11, 2147483648, 2147483656), (11, 2147483647, 2147483648)], [(2147483648, 2147583648, 0, 0), (2147483649, 2147483649, 1, 0), (2147483648, 2147483688, 2, 0), (2147483648, 2147483688, 3, 0)], h_b115_12),
  ([(2, 83, 0), (11, 0, 4294967295), (0, 13, 0), (11, 2147483648, 2147483656), (11, 2147483647, 2147483648)], [(2147483648, 2147583648, 0, 0), (2147483649, 2147483649, 1, 0), (2147483648, 2147483688, 2, 0), (2147483648, 2147483688, 3, 0)], h_b115_13),
  ([(2, 83, 0), (11, 0, 4294967295), (0, 14, 0), (11, 2147483648, 2147483656), (11, 2147483647, 2147483648)], [(2147483648, 2147583648, 0, 0), (2147483649, 2147483649, 1, 0), (2147483648, 2147483688, 2, 0), (2147483648, 2147483688, 3, 0)], h_b115_14),
  ([(2, 83, 0), (11, 0, 4294967295), (0, 15, 0), (11, 2147483648, 2147483656), (11, 2147483647, 2147483648)], [(2147483648, 2147583648, 0, 0), (2147483649, 2147483649, 1, 0), (2147483648, 2147483688, 2, 0), (2147483648, 2147483688, 3, 0)], h_b115_15),
  ([(2, 83, 0), (11, 0, 4294967295), (0, 16, 0), (11, 2147483648, 2147483656), (11, 2147483647, 2147483648)], [(2147483648, 2147583648, 0, 0), (2147483649, 2147483649, 1, 0), (2147483648, 2147483688, 2, 0), (2147483648, 2147483688, 3, 0)], h_b115_16),
  ([(2, 83, 0), (11, 0, 4294967295), (0, 17, 0), (11, 2147483648, 2147483656), (11, 2147483647, 2147483648)], [(2147483648, 2147583648, 0, 0), (2147483649, 2147483649, 1, 0), (2147483648, 2147483688, 2, 0), (2147483648, 2147483688, 3, 0)], h_b115_17),
  ([(2, 83, 0), (11, 0, 4294967295), (0, 18, 0), (11, 2147483648, 2147483656), (11, 2147483647, 2147483648)], [(2147483648, 2147583648, 0, 0), (2147483649, 2147483649, 1, 0), (2147483648, 2147483688, 2, 0), (2147483648, 2147483688, 3, 0)], h_b115_18),
  ([(2, 83, 0), (11, 0, 4294967295), (0, 19, 0), (11, 2147483648, 2147483656), (11, 2147483647, 2147483648)], [(2147483648, 2147583648, 0, 0), (2147483649, 2147483649, 1, 0), (2147483648, 2147483688, 2, 0), (2147483648, 2147483688, 3, 0)], h_b115_19),
  ([(2, 83, 0), (11, 0, 4294967295), (0, 20, 0), (11, 2147483648, 2147483656), (11, 2147483647, 2147483648)], [(2147483648, 2147583648, 0, 0), (2147483649, 2147483649, 1, 0), (2147483648, 2147483688, 2, 0), (2147483648, 2147483688, 3, 0)], h_b115_20),
  ([(2, 83, 0), (11, 0, 4294967295), (0, 21, 0), (0, 0, 0), (0, 0, 0)], [(2147483648, 2147583648, 0, 0), (2147483649, 2147483649, 1, 0), (2147483648, 2147483688, 2, 0), (2147483648, 2147483688, 3, 0)], h_b115_21),
  ([(2, 83, 0), (11, 0, 4294967295), (0, 22, 0), (0, 0, 0), (0, 0, 0)], [(2147483648, 2147583648, 0, 0), (2147483649, 2147483649, 1, 0), (2147483648, 2147483688, 2, 0), (2147483648, 2147483688, 3, 0)], h_b115_22),
  ([(2, 83, 0), (11, 0, 4294967295), (0, 23, 0), (0, 0, 0), (0, 0, 0)], [(2147483648, 2147583648, 0, 0), (2147483649, 2147483649, 1, 0), (2147483648, 2147483688, 2, 0), (2147483648, 2147483688, 3, 0)], h_b115_23),
  ([(2, 83, 0), (11, 0, 4294967295), (0, 24, 0), (0, 0, 0), (0, 0, 0)], [(2147483648, 2147583648, 0, 0), (2147483649, 2147483649, 1, 0), (2147483648, 2147483688, 2, 0), (2147483648, 2147483688, 3, 0)], h_b115_24),
  ([(2, 83, 0), (11, 0, 4294967295), (0, 25, 0), (0, 0, 0), (0, 0, 0)], [(2147483648, 2147583648, 0, 0), (2147483649, 2147483649, 1, 0), (2147483648, 2147483688, 2, 0), (2147483648, 2147483688, 3, 0)], h_b115_25)]
noncomputable def cl_b115_e : List (Nat × e2_S) := [(2, e2_cutL (al_b115_26.set 2 (11, 2147483648, 2147483657)) 4 (E_b115_26.take 4) h_b115_26)]
set_option maxRecDepth 1000000 in
theorem ck_b115_e : e2_run (e2_orG 231 83 11 4 2147483648 2147483668 as_b113 Eb_b113 f_b113 rs_b113 (e2_orG 231 83 11 4 2147483648 2147483668 as_b112 Eb_b112 f_b112 rs_b112 (e2_orG 231 83 11 4 2147483648 2147483668 as_b111 Eb_b111 f_b111 rs_b111 (e2_orG 231 83 11 4 2147483648 2147483668 as_b110 Eb_b110 f_b110 rs_b110 (e2_orG 231 83 11 4 2147483648 2147483668 as_b109 Eb_b109 f_b109 rs_b109 (e2_orG 231 83 11 4 2147483648 2147483668 as_b108 Eb_b108 f_b108 rs_b108 (e2_orG 231 83 11 4 2147483648 2147483668 as_b107 Eb_b107 f_b107 rs_b107 (e2_orG 231 83 11 4 2147483648 2147483668 as_b106 Eb_b106 f_b106 rs_b106 (e2_orG 231 83 11 4 2147483648 2147483668 as_b105 Eb_b105 f_b105 rs_b105 (e2_orG 231 83 11 4 2147483648 2147483668 as_b104 Eb_b104 f_b104 rs_b104 (e2_orG 231 83 11 4 2147483648 2147483668 as_b103 Eb_b103 f_b103 rs_b103 (e2_orG 231 83 11 4 2147483648 2147483668 as_b102 Eb_b102 f_b102 rs_b102 (e2_orG 231 83 11 4 2147483648 2147483668 as_b101 Eb_b101 f_b101 rs_b101 (e2_orG 231 83 11 4 2147483648 2147483668 as_b100 Eb_b100 f_b100 rs_b100 (e2_orG 231 83 11 4 2147483648 2147483668 as_b99 Eb_b99 f_b99 rs_b99 (e2_orG 231 83 11 4 2147483648 2147483668 as_b98 Eb_b98 f_b98 rs_b98 (e2_orG 231 83 11 4 2147483648 2147483668 as_b97 Eb_b97 f_b97 rs_b97 (e2_orG 231 83 11 4 2147483648 2147483668 as_b96 Eb_b96 f_b96 rs_b96 (e2_orG 231 83 11 4 2147483648 2147483668 as_b95 Eb_b95 f_b95 rs_b95 (e2_orG 231 83 11 4 2147483648 2147483668 as_b94 Eb_b94 f_b94 rs_b94 (e2_cal S_b115 I_b115 4000 1))))))))))))))))))))) (e2_fin rs_b115) e2x_230 (e2_bpL cl_b115_e) (e2_cutA cl_b115_e) 4000 (e2_seek e2x_230 0) (e2_al 5 as_b115) [] E_b115 f_b115 = true := by decide +kernel
noncomputable def cl_b115_26 : List (Nat × e2_S) := [(2, e2_cutL (al_b115_26.set 2 (13, 12, 2147483657)) 4 (E_b115_26.take 4) h_b115_26),
  (49, e2_cutL (al_b115_27.set 2 (11, 2147483647, 2147483667)) 4 (E_b115_27.take 4) h_b115_27)]
set_option maxRecDepth 1000000 in
theorem ck_b115_26 : e2_runM (e2_orG 231 83 11 4 2147483648 2147483668 as_b113 Eb_b113 f_b113 rs_b113 (e2_orG 231 83 11 4 2147483648 2147483668 as_b112 Eb_b112 f_b112 rs_b112 (e2_orG 231 83 11 4 2147483648 2147483668 as_b111 Eb_b111 f_b111 rs_b111 (e2_orG 231 83 11 4 2147483648 2147483668 as_b110 Eb_b110 f_b110 rs_b110 (e2_orG 231 83 11 4 2147483648 2147483668 as_b109 Eb_b109 f_b109 rs_b109 (e2_orG 231 83 11 4 2147483648 2147483668 as_b108 Eb_b108 f_b108 rs_b108 (e2_orG 231 83 11 4 2147483648 2147483668 as_b107 Eb_b107 f_b107 rs_b107 (e2_orG 231 83 11 4 2147483648 2147483668 as_b106 Eb_b106 f_b106 rs_b106 (e2_orG 231 83 11 4 2147483648 2147483668 as_b105 Eb_b105 f_b105 rs_b105 (e2_orG 231 83 11 4 2147483648 2147483668 as_b104 Eb_b104 f_b104 rs_b104 (e2_orG 231 83 11 4 2147483648 2147483668 as_b103 Eb_b103 f_b103 rs_b103 (e2_orG 231 83 11 4 2147483648 2147483668 as_b102 Eb_b102 f_b102 rs_b102 (e2_orG 231 83 11 4 2147483648 2147483668 as_b101 Eb_b101 f_b101 rs_b101 (e2_orG 231 83 11 4 2147483648 2147483668 as_b100 Eb_b100 f_b100 rs_b100 (e2_orG 231 83 11 4 2147483648 2147483668 as_b99 Eb_b99 f_b99 rs_b99 (e2_orG 231 83 11 4 2147483648 2147483668 as_b98 Eb_b98 f_b98 rs_b98 (e2_orG 231 83 11 4 2147483648 2147483668 as_b97 Eb_b97 f_b97 rs_b97 (e2_orG 231 83 11 4 2147483648 2147483668 as_b96 Eb_b96 f_b96 rs_b96 (e2_orG 231 83 11 4 2147483648 2147483668 as_b95 Eb_b95 f_b95 rs_b95 (e2_orG 231 83 11 4 2147483648 2147483668 as_b94 Eb_b94 f_b94 rs_b94 (e2_cal S_b115 I_b115 4000 1))))))))))))))))))))) (e2_fin rs_b115) e2x_230 (e2_bpL cl_b115_26) (e2_cutA cl_b115_26) 4000 (e2_seek e2x_230 2) al_b115_26 [] E_b115_26 h_b115_26 = true := by decide +kernel
set_option maxRecDepth 1000000 in
theorem ci_b115_26 : e2_idl 4 (al_b115_26.set 2 (9, 0, 0)) = true := by decide +kernel
set_option maxRecDepth 1000000 in
theorem cj_b115_26 : e2_idh 4 8 h_b115_26 = true := by decide +kernel
noncomputable def cl_b115_27 : List (Nat × e2_S) := [(120, e2_cutS cu_b115_120),
  (55, e2_cutL (al_b115_28.set 3 (11, 2147483648, 2147483657)) 5 (E_b115_28.take 5) h_b115_28)]
set_option maxRecDepth 1000000 in
theorem ck_b115_27 : e2_runM (e2_orG 231 83 11 4 2147483648 2147483668 as_b113 Eb_b113 f_b113 rs_b113 (e2_orG 231 83 11 4 2147483648 2147483668 as_b112 Eb_b112 f_b112 rs_b112 (e2_orG 231 83 11 4 2147483648 2147483668 as_b111 Eb_b111 f_b111 rs_b111 (e2_orG 231 83 11 4 2147483648 2147483668 as_b110 Eb_b110 f_b110 rs_b110 (e2_orG 231 83 11 4 2147483648 2147483668 as_b109 Eb_b109 f_b109 rs_b109 (e2_orG 231 83 11 4 2147483648 2147483668 as_b108 Eb_b108 f_b108 rs_b108 (e2_orG 231 83 11 4 2147483648 2147483668 as_b107 Eb_b107 f_b107 rs_b107 (e2_orG 231 83 11 4 2147483648 2147483668 as_b106 Eb_b106 f_b106 rs_b106 (e2_orG 231 83 11 4 2147483648 2147483668 as_b105 Eb_b105 f_b105 rs_b105 (e2_orG 231 83 11 4 2147483648 2147483668 as_b104 Eb_b104 f_b104 rs_b104 (e2_orG 231 83 11 4 2147483648 2147483668 as_b103 Eb_b103 f_b103 rs_b103 (e2_orG 231 83 11 4 2147483648 2147483668 as_b102 Eb_b102 f_b102 rs_b102 (e2_orG 231 83 11 4 2147483648 2147483668 as_b101 Eb_b101 f_b101 rs_b101 (e2_orG 231 83 11 4 2147483648 2147483668 as_b100 Eb_b100 f_b100 rs_b100 (e2_orG 231 83 11 4 2147483648 2147483668 as_b99 Eb_b99 f_b99 rs_b99 (e2_orG 231 83 11 4 2147483648 2147483668 as_b98 Eb_b98 f_b98 rs_b98 (e2_orG 231 83 11 4 2147483648 2147483668 as_b97 Eb_b97 f_b97 rs_b97 (e2_orG 231 83 11 4 2147483648 2147483668 as_b96 Eb_b96 f_b96 rs_b96 (e2_orG 231 83 11 4 2147483648 2147483668 as_b95 Eb_b95 f_b95 rs_b95 (e2_orG 231 83 11 4 2147483648 2147483668 as_b94 Eb_b94 f_b94 rs_b94 (e2_cal S_b115 I_b115 4000 1))))))))))))))))))))) (e2_fin rs_b115) e2x_230 (e2_bpL cl_b115_27) (e2_cutA cl_b115_27) 4000 (e2_seek e2x_230 49) al_b115_27 [] E_b115_27 h_b115_27 = true := by decide +kernel
set_option maxRecDepth 1000000 in
theorem ci_b115_27 : e2_idl 4 (al_b115_27.set 2 (9, 0, 0)) = true := by decide +kernel
set_option maxRecDepth 1000000 in
theorem cj_b115_27 : e2_idh 4 8 h_b115_27 = true := by decide +kernel
noncomputable def cl_b115_28 : List (Nat × e2_S) := [(49, e2_cutL (al_b115_27.set 2 (12, 12, 2147483647)) 4 (E_b115_27.take 4) h_b115_27),
  (55, e2_cutL (al_b115_28.set 3 (13, 13, 2147483657)) 5 (E_b115_28.take 5) h_b115_28)]
set_option maxRecDepth 1000000 in
theorem ck_b115_28 : e2_runM (e2_orG 231 83 11 4 2147483648 2147483668 as_b113 Eb_b113 f_b113 rs_b113 (e2_orG 231 83 11 4 2147483648 2147483668 as_b112 Eb_b112 f_b112 rs_b112 (e2_orG 231 83 11 4 2147483648 2147483668 as_b111 Eb_b111 f_b111 rs_b111 (e2_orG 231 83 11 4 2147483648 2147483668 as_b110 Eb_b110 f_b110 rs_b110 (e2_orG 231 83 11 4 2147483648 2147483668 as_b109 Eb_b109 f_b109 rs_b109 (e2_orG 231 83 11 4 2147483648 2147483668 as_b108 Eb_b108 f_b108 rs_b108 (e2_orG 231 83 11 4 2147483648 2147483668 as_b107 Eb_b107 f_b107 rs_b107 (e2_orG 231 83 11 4 2147483648 2147483668 as_b106 Eb_b106 f_b106 rs_b106 (e2_orG 231 83 11 4 2147483648 2147483668 as_b105 Eb_b105 f_b105 rs_b105 (e2_orG 231 83 11 4 2147483648 2147483668 as_b104 Eb_b104 f_b104 rs_b104 (e2_orG 231 83 11 4 2147483648 2147483668 as_b103 Eb_b103 f_b103 rs_b103 (e2_orG 231 83 11 4 2147483648 2147483668 as_b102 Eb_b102 f_b102 rs_b102 (e2_orG 231 83 11 4 2147483648 2147483668 as_b101 Eb_b101 f_b101 rs_b101 (e2_orG 231 83 11 4 2147483648 2147483668 as_b100 Eb_b100 f_b100 rs_b100 (e2_orG 231 83 11 4 2147483648 2147483668 as_b99 Eb_b99 f_b99 rs_b99 (e2_orG 231 83 11 4 2147483648 2147483668 as_b98 Eb_b98 f_b98 rs_b98 (e2_orG 231 83 11 4 2147483648 2147483668 as_b97 Eb_b97 f_b97 rs_b97 (e2_orG 231 83 11 4 2147483648 2147483668 as_b96 Eb_b96 f_b96 rs_b96 (e2_orG 231 83 11 4 2147483648 2147483668 as_b95 Eb_b95 f_b95 rs_b95 (e2_orG 231 83 11 4 2147483648 2147483668 as_b94 Eb_b94 f_b94 rs_b94 (e2_cal S_b115 I_b115 4000 1))))))))))))))))))))) (e2_fin rs_b115) e2x_230 (e2_bpL cl_b115_28) (e2_cutA cl_b115_28) 4000 (e2_seek e2x_230 55) al_b115_28 [] E_b115_28 h_b115_28 = true := by decide +kernel
set_option maxRecDepth 1000000 in
theorem ci_b115_28 : e2_idl 5 (al_b115_28.set 3 (9, 0, 0)) = true := by decide +kernel
set_option maxRecDepth 1000000 in
theorem cj_b115_28 : e2_idh 5 8 h_b115_28 = true := by decide +kernel
set_option maxRecDepth 1000000 in
theorem ck_b115_u120 : e2_cutsB (e2_orG 231 83 11 4 2147483648 2147483668 as_b113 Eb_b113 f_b113 rs_b113 (e2_orG 231 83 11 4 2147483648 2147483668 as_b112 Eb_b112 f_b112 rs_b112 (e2_orG 231 83 11 4 2147483648 2147483668 as_b111 Eb_b111 f_b111 rs_b111 (e2_orG 231 83 11 4 2147483648 2147483668 as_b110 Eb_b110 f_b110 rs_b110 (e2_orG 231 83 11 4 2147483648 2147483668 as_b109 Eb_b109 f_b109 rs_b109 (e2_orG 231 83 11 4 2147483648 2147483668 as_b108 Eb_b108 f_b108 rs_b108 (e2_orG 231 83 11 4 2147483648 2147483668 as_b107 Eb_b107 f_b107 rs_b107 (e2_orG 231 83 11 4 2147483648 2147483668 as_b106 Eb_b106 f_b106 rs_b106 (e2_orG 231 83 11 4 2147483648 2147483668 as_b105 Eb_b105 f_b105 rs_b105 (e2_orG 231 83 11 4 2147483648 2147483668 as_b104 Eb_b104 f_b104 rs_b104 (e2_orG 231 83 11 4 2147483648 2147483668 as_b103 Eb_b103 f_b103 rs_b103 (e2_orG 231 83 11 4 2147483648 2147483668 as_b102 Eb_b102 f_b102 rs_b102 (e2_orG 231 83 11 4 2147483648 2147483668 as_b101 Eb_b101 f_b101 rs_b101 (e2_orG 231 83 11 4 2147483648 2147483668 as_b100 Eb_b100 f_b100 rs_b100 (e2_orG 231 83 11 4 2147483648 2147483668 as_b99 Eb_b99 f_b99 rs_b99 (e2_orG 231 83 11 4 2147483648 2147483668 as_b98 Eb_b98 f_b98 rs_b98 (e2_orG 231 83 11 4 2147483648 2147483668 as_b97 Eb_b97 f_b97 rs_b97 (e2_orG 231 83 11 4 2147483648 2147483668 as_b96 Eb_b96 f_b96 rs_b96 (e2_orG 231 83 11 4 2147483648 2147483668 as_b95 Eb_b95 f_b95 rs_b95 (e2_orG 231 83 11 4 2147483648 2147483668 as_b94 Eb_b94 f_b94 rs_b94 (e2_cal S_b115 I_b115 4000 1))))))))))))))))))))) (e2_fin rs_b115) e2x_230 120 4000 cu_b115_120 = true := by decide +kernel
set_option maxRecDepth 1000000 in
theorem cs_b115 (hen : en_ok) (l : Launch) : e2_smOk l 5 s_b115 := by
  refine e2_conC (H := 4) (C := evd_230) (call := (e2_orG 231 83 11 4 2147483648 2147483668 as_b113 Eb_b113 f_b113 rs_b113 (e2_orG 231 83 11 4 2147483648 2147483668 as_b112 Eb_b112 f_b112 rs_b112 (e2_orG 231 83 11 4 2147483648 2147483668 as_b111 Eb_b111 f_b111 rs_b111 (e2_orG 231 83 11 4 2147483648 2147483668 as_b110 Eb_b110 f_b110 rs_b110 (e2_orG 231 83 11 4 2147483648 2147483668 as_b109 Eb_b109 f_b109 rs_b109 (e2_orG 231 83 11 4 2147483648 2147483668 as_b108 Eb_b108 f_b108 rs_b108 (e2_orG 231 83 11 4 2147483648 2147483668 as_b107 Eb_b107 f_b107 rs_b107 (e2_orG 231 83 11 4 2147483648 2147483668 as_b106 Eb_b106 f_b106 rs_b106 (e2_orG 231 83 11 4 2147483648 2147483668 as_b105 Eb_b105 f_b105 rs_b105 (e2_orG 231 83 11 4 2147483648 2147483668 as_b104 Eb_b104 f_b104 rs_b104 (e2_orG 231 83 11 4 2147483648 2147483668 as_b103 Eb_b103 f_b103 rs_b103 (e2_orG 231 83 11 4 2147483648 2147483668 as_b102 Eb_b102 f_b102 rs_b102 (e2_orG 231 83 11 4 2147483648 2147483668 as_b101 Eb_b101 f_b101 rs_b101 (e2_orG 231 83 11 4 2147483648 2147483668 as_b100 Eb_b100 f_b100 rs_b100 (e2_orG 231 83 11 4 2147483648 2147483668 as_b99 Eb_b99 f_b99 rs_b99 (e2_orG 231 83 11 4 2147483648 2147483668 as_b98 Eb_b98 f_b98 rs_b98 (e2_orG 231 83 11 4 2147483648 2147483668 as_b97 Eb_b97 f_b97 rs_b97 (e2_orG 231 83 11 4 2147483648 2147483668 as_b96 Eb_b96 f_b96 rs_b96 (e2_orG 231 83 11 4 2147483648 2147483668 as_b95 Eb_b95 f_b95 rs_b95 (e2_orG 231 83 11 4 2147483648 2147483668 as_b94 Eb_b94 f_b94 rs_b94 (e2_cal S_b115 I_b115 4000 1)))))))))))))))))))))) ei_230 (fun d hd => (e2_orG_ok (k0 := 231) (a := 83) (j := 11) (n := 4) (lo := 2147483648) (hi := 2147483668) (as0 := as_b113) (Eb := Eb_b113) (f := f_b113) (res := rs_b113) (e2_orG_ok (k0 := 231) (a := 83) (j := 11) (n := 4) (lo := 2147483648) (hi := 2147483668) (as0 := as_b112) (Eb := Eb_b112) (f := f_b112) (res := rs_b112) (e2_orG_ok (k0 := 231) (a := 83) (j := 11) (n := 4) (lo := 2147483648) (hi := 2147483668) (as0 := as_b111) (Eb := Eb_b111) (f := f_b111) (res := rs_b111) (e2_orG_ok (k0 := 231) (a := 83) (j := 11) (n := 4) (lo := 2147483648) (hi := 2147483668) (as0 := as_b110) (Eb := Eb_b110) (f := f_b110) (res := rs_b110) (e2_orG_ok (k0 := 231) (a := 83) (j := 11) (n := 4) (lo := 2147483648) (hi := 2147483668) (as0 := as_b109) (Eb := Eb_b109) (f := f_b109) (res := rs_b109) (e2_orG_ok (k0 := 231) (a := 83) (j := 11) (n := 4) (lo := 2147483648) (hi := 2147483668) (as0 := as_b108) (Eb := Eb_b108) (f := f_b108) (res := rs_b108) (e2_orG_ok (k0 := 231) (a := 83) (j := 11) (n := 4) (lo := 2147483648) (hi := 2147483668) (as0 := as_b107) (Eb := Eb_b107) (f := f_b107) (res := rs_b107) (e2_orG_ok (k0 := 231) (a := 83) (j := 11) (n := 4) (lo := 2147483648) (hi := 2147483668) (as0 := as_b106) (Eb := Eb_b106) (f := f_b106) (res := rs_b106) (e2_orG_ok (k0 := 231) (a := 83) (j := 11) (n := 4) (lo := 2147483648) (hi := 2147483668) (as0 := as_b105) (Eb := Eb_b105) (f := f_b105) (res := rs_b105) (e2_orG_ok (k0 := 231) (a := 83) (j := 11) (n := 4) (lo := 2147483648) (hi := 2147483668) (as0 := as_b104) (Eb := Eb_b104) (f := f_b104) (res := rs_b104) (e2_orG_ok (k0 := 231) (a := 83) (j := 11) (n := 4) (lo := 2147483648) (hi := 2147483668) (as0 := as_b103) (Eb := Eb_b103) (f := f_b103) (res := rs_b103) (e2_orG_ok (k0 := 231) (a := 83) (j := 11) (n := 4) (lo := 2147483648) (hi := 2147483668) (as0 := as_b102) (Eb := Eb_b102) (f := f_b102) (res := rs_b102) (e2_orG_ok (k0 := 231) (a := 83) (j := 11) (n := 4) (lo := 2147483648) (hi := 2147483668) (as0 := as_b101) (Eb := Eb_b101) (f := f_b101) (res := rs_b101) (e2_orG_ok (k0 := 231) (a := 83) (j := 11) (n := 4) (lo := 2147483648) (hi := 2147483668) (as0 := as_b100) (Eb := Eb_b100) (f := f_b100) (res := rs_b100) (e2_orG_ok (k0 := 231) (a := 83) (j := 11) (n := 4) (lo := 2147483648) (hi := 2147483668) (as0 := as_b99) (Eb := Eb_b99) (f := f_b99) (res := rs_b99) (e2_orG_ok (k0 := 231) (a := 83) (j := 11) (n := 4) (lo := 2147483648) (hi := 2147483668) (as0 := as_b98) (Eb := Eb_b98) (f := f_b98) (res := rs_b98) (e2_orG_ok (k0 := 231) (a := 83) (j := 11) (n := 4) (lo := 2147483648) (hi := 2147483668) (as0 := as_b97) (Eb := Eb_b97) (f := f_b97) (res := rs_b97) (e2_orG_ok (k0 := 231) (a := 83) (j := 11) (n := 4) (lo := 2147483648) (hi := 2147483668) (as0 := as_b96) (Eb := Eb_b96) (f := f_b96) (res := rs_b96) (e2_orG_ok (k0 := 231) (a := 83) (j := 11) (n := 4) (lo := 2147483648) (hi := 2147483668) (as0 := as_b95) (Eb := Eb_b95) (f := f_b95) (res := rs_b95) (e2_orG_ok (k0 := 231) (a := 83) (j := 11) (n := 4) (lo := 2147483648) (hi := 2147483668) (as0 := as_b94) (Eb := Eb_b94) (f := f_b94) (res := rs_b94) (e2_cal_ok hen (e2_fa (cs_b44 hen l) (e2_fa (cs_b45 hen l) (e2_fa (cs_b46 hen l) (e2_fa (cs_b47 hen l) (e2_fa (cs_b48 hen l) (e2_fa (cs_b49 hen l) (e2_fa (cs_b50 hen l) (e2_fa (cs_b51 hen l) (e2_fa (cs_b52 hen l) (e2_fa (cs_b53 hen l) (e2_fa (cs_b54 hen l) (e2_fa (cs_b55 hen l) (e2_fa (cs_b56 hen l) (e2_fa (cs_b57 hen l) (e2_fa (cs_b58 hen l) (e2_fa (cs_b59 hen l) (e2_fa (cs_b60 hen l) (e2_fa (cs_b61 hen l) (e2_fa (cs_b62 hen l) (e2_fa (cs_b63 hen l) e2_fz)))))))))))))))))))) (e2_fa ein_216 (e2_fa ein_217 (e2_fa ein_227 e2_fz))) 1 d (by omega)) rfl (by decide +kernel) (fun M hM => (cs_b94 hen l).2 M hM d (by omega)) (e2_okGB_ok cog_b94)) rfl (by decide +kernel) (fun M hM => (cs_b95 hen l).2 M hM d (by omega)) (e2_okGB_ok cog_b95)) rfl (by decide +kernel) (fun M hM => (cs_b96 hen l).2 M hM d (by omega)) (e2_okGB_ok cog_b96)) rfl (by decide +kernel) (fun M hM => (cs_b97 hen l).2 M hM d (by omega)) (e2_okGB_ok cog_b97)) rfl (by decide +kernel) (fun M hM => (cs_b98 hen l).2 M hM d (by omega)) (e2_okGB_ok cog_b98)) rfl (by decide +kernel) (fun M hM => (cs_b99 hen l).2 M hM d (by omega)) (e2_okGB_ok cog_b99)) rfl (by decide +kernel) (fun M hM => (cs_b100 hen l).2 M hM d (by omega)) (e2_okGB_ok cog_b100)) rfl (by decide +kernel) (fun M hM => (cs_b101 hen l).2 M hM d (by omega)) (e2_okGB_ok cog_b101)) rfl (by decide +kernel) (fun M hM => (cs_b102 hen l).2 M hM d (by omega)) (e2_okGB_ok cog_b102)) rfl (by decide +kernel) (fun M hM => (cs_b103 hen l).2 M hM d (by omega)) (e2_okGB_ok cog_b103)) rfl (by decide +kernel) (fun M hM => (cs_b104 hen l).2 M hM d (by omega)) (e2_okGB_ok cog_b104)) rfl (by decide +kernel) (fun M hM => (cs_b105 hen l).2 M hM d (by omega)) (e2_okGB_ok cog_b105)) rfl (by decide +kernel) (fun M hM => (cs_b106 hen l).2 M hM d (by omega)) (e2_okGB_ok cog_b106)) rfl (by decide +kernel) (fun M hM => (cs_b107 hen l).2 M hM d (by omega)) (e2_okGB_ok cog_b107)) rfl (by decide +kernel) (fun M hM => (cs_b108 hen l).2 M hM d (by omega)) (e2_okGB_ok cog_b108)) rfl (by decide +kernel) (fun M hM => (cs_b109 hen l).2 M hM d (by omega)) (e2_okGB_ok cog_b109)) rfl (by decide +kernel) (fun M hM => (cs_b110 hen l).2 M hM d (by omega)) (e2_okGB_ok cog_b110)) rfl (by decide +kernel) (fun M hM => (cs_b111 hen l).2 M hM d (by omega)) (e2_okGB_ok cog_b111)) rfl (by decide +kernel) (fun M hM => (cs_b112 hen l).2 M hM d (by omega)) (e2_okGB_ok cog_b112)) rfl (by decide +kernel) (fun M hM => (cs_b113 hen l).2 M hM d (by omega)) (e2_okGB_ok cog_b113))) (by decide) co_b115 fun M d _ hC hcall p e R s m args below meth c Q D cA A ads r0 ha hl0 => ?_
  have EN_120 := e2_cutS_ok (bp := 120) (cuts := cu_b115_120) (e2_cuts_len hl0 (by decide +kernel)) (e2_cuts_ok hen ha hcall (hC [76, 192, 195]) (X := e2x_230) ex2_230 (e2_cuts_len hl0 (by decide +kernel)) ck_b115_u120)
  have L_27 : e2_gdM M p l e R s m args below meth c Q D cA A ads r0 49 al_b115_27 [] E_b115_27 h_b115_27 := by
    refine e2_indD (u := 4) (j := 2) (lo := 2147483647) (hi := 2147483667) hl0 (by decide) rfl rfl rfl ci_b115_27 cj_b115_27 ?_
    intro r_27 k_27 hk_27 hp_27 hs_27 hn_27
    have hl_27 : r_27.length ≤ 5 := hs_27.len rfl
    have ha_27 := ha.ext hp_27
    have L_28 : e2_gdM M p l e R s m args below meth c Q D cA A ads r_27 55 al_b115_28 [] E_b115_28 h_b115_28 := by
      refine e2_indL (u := 5) (j := 3) (lo := 2147483648) (hi := 2147483657) (b := 5) (dd := 0) hl_27 (by decide) rfl rfl (Or.inr ⟨rfl, rfl⟩) rfl ci_b115_28 cj_b115_28 ?_
      intro r_28 k_28 hk_28 hp_28 hs_28 hn_28
      have hl_28 : r_28.length ≤ 6 := hs_28.len rfl
      have ha_28 := ha_27.ext hp_28
      exact e2_fromM hen ha_28 hcall (e2_cutA_ok (e2_fa (fun al st E h hc => (hn_27 al st E h hc).ext hp_28) (e2_fa (fun al st E h hc => hn_28 al st E h hc) e2_fz))) (hC [76, 192, 195]) (X := e2x_230) ex2_230 55 ck_b115_28
    have EN_28 := e2_entL (u := 5) (j := 3) (lo := 2147483648) (hi := 2147483657) hl_27 rfl rfl rfl ci_b115_28 cj_b115_28 L_28
    exact e2_fromM hen ha_27 hcall (e2_cutA_ok (e2_fa (fun al st E h hc => (EN_120 al st E h hc).ext hp_27) (e2_fa (fun al st E h hc => EN_28 al st E h hc) e2_fz))) (hC [76, 192, 195]) (X := e2x_230) ex2_230 49 ck_b115_27
  have EN_27 := e2_entL (u := 4) (j := 2) (lo := 2147483647) (hi := 2147483667) hl0 rfl rfl rfl ci_b115_27 cj_b115_27 L_27
  have L_26 : e2_gdM M p l e R s m args below meth c Q D cA A ads r0 2 al_b115_26 [] E_b115_26 h_b115_26 := by
    refine e2_indL (u := 4) (j := 2) (lo := 2147483648) (hi := 2147483657) (b := 4) (dd := 0) hl0 (by decide) rfl rfl (Or.inr ⟨rfl, rfl⟩) rfl ci_b115_26 cj_b115_26 ?_
    intro r_26 k_26 hk_26 hp_26 hs_26 hn_26
    have hl_26 : r_26.length ≤ 5 := hs_26.len rfl
    have ha_26 := ha.ext hp_26
    exact e2_fromM hen ha_26 hcall (e2_cutA_ok (e2_fa (fun al st E h hc => hn_26 al st E h hc) (e2_fa (fun al st E h hc => (EN_27 al st E h hc).ext hp_26) e2_fz))) (hC [76, 192, 195]) (X := e2x_230) ex2_230 2 ck_b115_26
  have EN_26 := e2_entL (u := 4) (j := 2) (lo := 2147483648) (hi := 2147483657) hl0 rfl rfl rfl ci_b115_26 cj_b115_26 L_26
  exact e2_from hen ha hcall (e2_cutA_ok (e2_fa (fun al st E h hc => EN_26 al st E h hc) e2_fz)) (hC [76, 192, 195]) (X := e2x_230) ex2_230 0 ck_b115_e
/-! b116 X10_read -/
def as_b116 : List ev_V := [(2, 83, 0), (11, 0, 4294967295)]
def E_b116 : e2_E := [(2147483648, 2147583648, 0, 0), (2147483650, 2147483650, 1, 0), (2147483648, 2147483688, 2, 0), (2147483648, 2147483688, 3, 0)]
def bn1205 : e2_Q7 := (bn674, bn457)
def bn1206 : e2_Q8 := (bn477, bn1205)
noncomputable def f_b116 : ev_H := (bn1206 : e2_Q8)
noncomputable def q_b116_0 : ev_H := (bn1206 : e2_Q8)
noncomputable def rs_b116 : e2_Rs := [((11, 2147483647, 2147483668), q_b116_0)]
noncomputable def s_b116 : e2_Sm := (230, as_b116, E_b116, f_b116, rs_b116)
noncomputable def S_b116 : List e2_Sm := [s_b44, s_b45, s_b46, s_b47, s_b48, s_b49, s_b50, s_b51, s_b52, s_b53, s_b54, s_b55, s_b56, s_b57, s_b58, s_b59, s_b60, s_b61, s_b62, s_b63]
noncomputable def I_b116 : List e2_In := [(216, 1, e2x_216), (217, 1, e2x_217), (227, 2, e2x_227)]
set_option maxRecDepth 1000000 in
theorem co_b116 : e2_okSB E_b116.length as_b116 f_b116 rs_b116 = true := by decide +kernel
def al_b116_26 : List ev_V := [(2, 83, 0), (11, 0, 4294967295), (1, 4, 4294967296), (9, 0, 0), (9, 0, 0)]
def E_b116_26 : e2_E := [(2147483648, 2147583648, 0, 0), (2147483650, 2147483650, 1, 0), (2147483648, 2147483688, 2, 0), (2147483648, 2147483688, 3, 0), (2147483648, 2147483657, 4, 0)]
noncomputable def h_b116_26 : ev_H := (bn1206 : e2_Q8)
def al_b116_27 : List ev_V := [(2, 83, 0), (11, 0, 4294967295), (1, 4, 4294967296), (9, 0, 0), (9, 0, 0)]
def E_b116_27 : e2_E := [(2147483648, 2147583648, 0, 0), (2147483650, 2147483650, 1, 0), (2147483648, 2147483688, 2, 0), (2147483648, 2147483688, 3, 0), (2147483647, 2147483667, 4, 0)]
noncomputable def h_b116_27 : ev_H := (bn1206 : e2_Q8)
def al_b116_28 : List ev_V := [(2, 83, 0), (11, 0, 4294967295), (1, 4, 4294967296), (1, 5, 4294967296), (9, 0, 0)]
def E_b116_28 : e2_E := [(2147483648, 2147583648, 0, 0), (2147483650, 2147483650, 1, 0), (2147483648, 2147483688, 2, 0), (2147483648, 2147483688, 3, 0), (2147483648, 2147483667, 4, 0), (2147483648, 2147483657, 5, 0)]
noncomputable def h_b116_28 : ev_H := (bn1206 : e2_Q8)
def bn1207 : e2_Q7 := (bn674, bn1038)
def bn1208 : e2_Q8 := (bn477, bn1207)
noncomputable def h_b116_0 : ev_H := (bn1208 : e2_Q8)
def bn1209 : e2_Q7 := (bn674, bn1050)
def bn1210 : e2_Q8 := (bn477, bn1209)
noncomputable def h_b116_1 : ev_H := (bn1210 : e2_Q8)
def bn1211 : e2_Q7 := (bn674, bn1058)
def bn1212 : e2_Q8 := (bn477, bn1211)
noncomputable def h_b116_2 : ev_H := (bn1212 : e2_Q8)
def bn1213 : e2_Q7 := (bn674, bn1066)
def bn1214 : e2_Q8 := (bn477, bn1213)
noncomputable def h_b116_3 : ev_H := (bn1214 : e2_Q8)
def bn1215 : e2_Q7 := (bn674, bn1074)
def bn1216 : e2_Q8 := (bn477, bn1215)
noncomputable def h_b116_4 : ev_H := (bn1216 : e2_Q8)
def bn1217 : e2_Q7 := (bn674, bn1082)
def bn1218 : e2_Q8 := (bn477, bn1217)
noncomputable def h_b116_5 : ev_H := (bn1218 : e2_Q8)
def bn1219 : e2_Q7 := (bn674, bn1090)
def bn1220 : e2_Q8 := (bn477, bn1219)
noncomputable def h_b116_6 : ev_H := (bn1220 : e2_Q8)
def bn1221 : e2_Q7 := (bn674, bn1098)
def bn1222 : e2_Q8 := (bn477, bn1221)
noncomputable def h_b116_7 : ev_H := (bn1222 : e2_Q8)
def bn1223 : e2_Q7 := (bn674, bn1106)
def bn1224 : e2_Q8 := (bn477, bn1223)
noncomputable def h_b116_8 : ev_H := (bn1224 : e2_Q8)
def bn1225 : e2_Q7 := (bn674, bn1114)
def bn1226 : e2_Q8 := (bn477, bn1225)
noncomputable def h_b116_9 : ev_H := (bn1226 : e2_Q8)
def bn1227 : e2_Q7 := (bn674, bn1122)
def bn1228 : e2_Q8 := (bn477, bn1227)
noncomputable def h_b116_10 : ev_H := (bn1228 : e2_Q8)
def bn1229 : e2_Q7 := (bn674, bn1130)
def bn1230 : e2_Q8 := (bn477, bn1229)
noncomputable def h_b116_11 : ev_H := (bn1230 : e2_Q8)
def bn1231 : e2_Q7 := (bn674, bn1138)
def bn1232 : e2_Q8 := (bn477, bn1231)
noncomputable def h_b116_12 : ev_H := (bn1232 : e2_Q8)
def bn1233 : e2_Q7 := (bn674, bn1146)
def bn1234 : e2_Q8 := (bn477, bn1233)
noncomputable def h_b116_13 : ev_H := (bn1234 : e2_Q8)
def bn1235 : e2_Q7 := (bn674, bn1154)
def bn1236 : e2_Q8 := (bn477, bn1235)
noncomputable def h_b116_14 : ev_H := (bn1236 : e2_Q8)
def bn1237 : e2_Q7 := (bn674, bn1162)
def bn1238 : e2_Q8 := (bn477, bn1237)
noncomputable def h_b116_15 : ev_H := (bn1238 : e2_Q8)
def bn1239 : e2_Q7 := (bn674, bn1170)
def bn1240 : e2_Q8 := (bn477, bn1239)
noncomputable def h_b116_16 : ev_H := (bn1240 : e2_Q8)
def bn1241 : e2_Q7 := (bn674, bn1178)
def bn1242 : e2_Q8 := (bn477, bn1241)
noncomputable def h_b116_17 : ev_H := (bn1242 : e2_Q8)
def bn1243 : e2_Q7 := (bn674, bn1186)
def bn1244 : e2_Q8 := (bn477, bn1243)
noncomputable def h_b116_18 : ev_H := (bn1244 : e2_Q8)
def bn1245 : e2_Q7 := (bn674, bn1194)
def bn1246 : e2_Q8 := (bn477, bn1245)
noncomputable def h_b116_19 : ev_H := (bn1246 : e2_Q8)
noncomputable def h_b116_20 : ev_H := (bn1206 : e2_Q8)
def bn1247 : e2_Q7 := (bn674, bn1202)
def bn1248 : e2_Q8 := (bn477, bn1247)
noncomputable def h_b116_21 : ev_H := (bn1248 : e2_Q8)
noncomputable def h_b116_22 : ev_H := (bn1248 : e2_Q8)
noncomputable def h_b116_23 : ev_H := (bn1248 : e2_Q8)
noncomputable def h_b116_24 : ev_H := (bn1248 : e2_Q8)
noncomputable def h_b116_25 : ev_H := (bn1248 : e2_Q8)
noncomputable def cu_b116_120 : List e2_Cu := [([(2, 83, 0), (11, 0, 4294967295), (0, 0, 0), (0, 8, 0), (9, 0, 0)], [(2147483648, 2147583648, 0, 0), (2147483650, 2147483650, 1, 0), (2147483648, 2147483688, 2, 0), (2147483648, 2147483688, 3, 0)], h_b116_0),
  ([(2, 83, 0), (11, 0, 4294967295), (0, 1, 0), (11, 2147483648, 2147483656), (11, 2147483647, 2147483649)], [(2147483648, 2147583648, 0, 0), (2147483650, 2147483650, 1, 0), (2147483648, 2147483688, 2, 0), (2147483648, 2147483688, 3, 0)], h_b116_1),
  ([(2, 83, 0), (11, 0, 4294967295), (0, 2, 0), (11, 2147483648, 2147483656), (11, 2147483647, 2147483649)], [(2147483648, 2147583648, 0, 0), (2147483650, 2147483650, 1, 0), (2147483648, 2147483688, 2, 0), (2147483648, 2147483688, 3, 0)], h_b116_2),
  ([(2, 83, 0), (11, 0, 4294967295), (0, 3, 0), (11, 2147483648, 2147483656), (11, 2147483647, 2147483649)], [(2147483648, 2147583648, 0, 0), (2147483650, 2147483650, 1, 0), (2147483648, 2147483688, 2, 0), (2147483648, 2147483688, 3, 0)], h_b116_3),
  ([(2, 83, 0), (11, 0, 4294967295), (0, 4, 0), (11, 2147483648, 2147483656), (11, 2147483647, 2147483649)], [(2147483648, 2147583648, 0, 0), (2147483650, 2147483650, 1, 0), (2147483648, 2147483688, 2, 0), (2147483648, 2147483688, 3, 0)], h_b116_4),
  ([(2, 83, 0), (11, 0, 4294967295), (0, 5, 0), (11, 2147483648, 2147483656), (11, 2147483647, 2147483649)], [(2147483648, 2147583648, 0, 0), (2147483650, 2147483650, 1, 0), (2147483648, 2147483688, 2, 0), (2147483648, 2147483688, 3, 0)], h_b116_5),
  ([(2, 83, 0), (11, 0, 4294967295), (0, 6, 0), (11, 2147483648, 2147483656), (11, 2147483647, 2147483649)], [(2147483648, 2147583648, 0, 0), (2147483650, 2147483650, 1, 0), (2147483648, 2147483688, 2, 0), (2147483648, 2147483688, 3, 0)], h_b116_6),
  ([(2, 83, 0), (11, 0, 4294967295), (0, 7, 0), (11, 2147483648, 2147483656), (11, 2147483647, 2147483649)], [(2147483648, 2147583648, 0, 0), (2147483650, 2147483650, 1, 0), (2147483648, 2147483688, 2, 0), (2147483648, 2147483688, 3, 0)], h_b116_7),
  ([(2, 83, 0), (11, 0, 4294967295), (0, 8, 0), (11, 2147483648, 2147483656), (11, 2147483647, 2147483649)], [(2147483648, 2147583648, 0, 0), (2147483650, 2147483650, 1, 0), (2147483648, 2147483688, 2, 0), (2147483648, 2147483688, 3, 0)], h_b116_8),
  ([(2, 83, 0), (11, 0, 4294967295), (0, 9, 0), (11, 2147483648, 2147483656), (11, 2147483647, 2147483649)], [(2147483648, 2147583648, 0, 0), (2147483650, 2147483650, 1, 0), (2147483648, 2147483688, 2, 0), (2147483648, 2147483688, 3, 0)], h_b116_9),
  ([(2, 83, 0), (11, 0, 4294967295), (0, 10, 0), (11, 2147483648, 2147483656), (11, 2147483647, 2147483649)], [(2147483648, 2147583648, 0, 0), (2147483650, 2147483650, 1, 0), (2147483648, 2147483688, 2, 0), (2147483648, 2147483688, 3, 0)], h_b116_10),
  ([(2, 83, 0), (11, 0, 4294967295), (0, 11, 0), (11, 2147483648, 2147483656), (11, 2147483647, 2147483649)], [(2147483648, 2147583648, 0, 0), (2147483650, 2147483650, 1, 0), (2147483648, 2147483688, 2, 0), (2147483648, 2147483688, 3, 0)], h_b116_11),
  ([(2, 83, 0), (11, 0, 4294967295), (0, 12, 0), (11, 2147483648, 2147483656), (11, 2147483647, 2147483649)], [(2147483648, 2147583648, 0, 0), (2147483650, 2147483650, 1, 0), (2147483648, 2147483688, 2, 0), (2147483648, 2147483688, 3, 0)], h_b116_12),
  ([(2, 83, 0), (11, 0, 4294967295), (0, 13, 0), (11, 2147483648, 2147483656), (11, 2147483647, 2147483649)], [(2147483648, 2147583648, 0, 0), (2147483650, 2147483650, 1, 0), (2147483648, 2147483688, 2, 0), (2147483648, 2147483688, 3, 0)], h_b116_13),
  ([(2, 83, 0), (11, 0, 4294967295), (0, 14, 0), (11, 2147483648, 2147483656), (11, 2147483647, 2147483649)], [(2147483648, 2147583648, 0, 0), (2147483650, 2147483650, 1, 0), (2147483648, 2147483688, 2, 0), (2147483648, 2147483688, 3, 0)], h_b116_14),
  ([(2, 83, 0), (11, 0, 4294967295), (0, 15, 0), (11, 2147483648, 2147483656), (11, 2147483647, 2147483649)], [(2147483648, 2147583648, 0, 0), (2147483650, 2147483650, 1, 0), (2147483648, 2147483688, 2, 0), (2147483648, 2147483688, 3, 0)], h_b116_15),
  ([(2, 83, 0), (11, 0, 4294967295), (0, 16, 0), (11, 2147483648, 2147483656), (11, 2147483647, 2147483649)], [(2147483648, 2147583648, 0, 0), (2147483650, 2147483650, 1, 0), (2147483648, 2147483688, 2, 0), (2147483648, 2147483688, 3, 0)], h_b116_16),
  ([(2, 83, 0), (11, 0, 4294967295), (0, 17, 0), (11, 2147483648, 2147483656), (11, 2147483647, 2147483649)], [(2147483648, 2147583648, 0, 0), (2147483650, 2147483650, 1, 0), (2147483648, 2147483688, 2, 0), (2147483648, 2147483688, 3, 0)], h_b116_17),
  ([(2, 83, 0), (11, 0, 4294967295), (0, 18, 0), (11, 2147483648, 2147483656), (11, 2147483647, 2147483649)], [(2147483648, 2147583648, 0, 0), (2147483650, 2147483650, 1, 0), (2147483648, 2147483688, 2, 0), (2147483648, 2147483688, 3, 0)], h_b116_18),
  ([(2, 83, 0), (11, 0, 4294967295), (0, 19, 0), (11, 2147483648, 2147483656), (11, 2147483647, 2147483649)], [(2147483648, 2147583648, 0, 0), (2147483650, 2147483650, 1, 0), (2147483648, 2147483688, 2, 0), (2147483648, 2147483688, 3, 0)], h_b116_19),
  ([(2, 83, 0), (11, 0, 4294967295), (0, 20, 0), (11, 2147483648, 2147483656), (11, 2147483647, 2147483649)], [(2147483648, 2147583648, 0, 0), (2147483650, 2147483650, 1, 0), (2147483648, 2147483688, 2, 0), (2147483648, 2147483688, 3, 0)], h_b116_20),
  ([(2, 83, 0), (11, 0, 4294967295), (0, 21, 0), (11, 2147483648, 2147483649), (11, 2147483648, 2147483649)], [(2147483648, 2147583648, 0, 0), (2147483650, 2147483650, 1, 0), (2147483648, 2147483688, 2, 0), (2147483648, 2147483688, 3, 0)], h_b116_21),
  ([(2, 83, 0), (11, 0, 4294967295), (0, 22, 0), (11, 2147483648, 2147483649), (11, 2147483648, 2147483649)], [(2147483648, 2147583648, 0, 0), (2147483650, 2147483650, 1, 0), (2147483648, 2147483688, 2, 0), (2147483648, 2147483688, 3, 0)], h_b116_22),
  ([(2, 83, 0), (11, 0, 4294967295), (0, 23, 0), (11, 2147483648, 2147483649), (11, 2147483648, 2147483649)], [(2147483648, 2147583648, 0, 0), (2147483650, 2147483650, 1, 0), (2147483648, 2147483688, 2, 0), (2147483648, 2147483688, 3, 0)], h_b116_23),
  ([(2, 83, 0), (11, 0, 4294967295), (0, 24, 0), (11, 2147483648, 2147483649), (11, 2147483648, 2147483649)], [(2147483648, 2147583648, 0, 0), (2147483650, 2147483650, 1, 0), (2147483648, 2147483688, 2, 0), (2147483648, 2147483688, 3, 0)], h_b116_24),
  ([(2, 83, 0), (11, 0, 4294967295), (0, 25, 0), (11, 2147483648, 2147483649), (11, 2147483648, 2147483649)], [(2147483648, 2147583648, 0, 0), (2147483650, 2147483650, 1, 0), (2147483648, 2147483688, 2, 0), (2147483648, 2147483688, 3, 0)], h_b116_25)]
noncomputable def cl_b116_e : List (Nat × e2_S) := [(2, e2_cutL (al_b116_26.set 2 (11, 2147483648, 2147483657)) 4 (E_b116_26.take 4) h_b116_26)]
set_option maxRecDepth 1000000 in
theorem ck_b116_e : e2_run (e2_orG 231 83 11 4 2147483648 2147483668 as_b113 Eb_b113 f_b113 rs_b113 (e2_orG 231 83 11 4 2147483648 2147483668 as_b112 Eb_b112 f_b112 rs_b112 (e2_orG 231 83 11 4 2147483648 2147483668 as_b111 Eb_b111 f_b111 rs_b111 (e2_orG 231 83 11 4 2147483648 2147483668 as_b110 Eb_b110 f_b110 rs_b110 (e2_orG 231 83 11 4 2147483648 2147483668 as_b109 Eb_b109 f_b109 rs_b109 (e2_orG 231 83 11 4 2147483648 2147483668 as_b108 Eb_b108 f_b108 rs_b108 (e2_orG 231 83 11 4 2147483648 2147483668 as_b107 Eb_b107 f_b107 rs_b107 (e2_orG 231 83 11 4 2147483648 2147483668 as_b106 Eb_b106 f_b106 rs_b106 (e2_orG 231 83 11 4 2147483648 2147483668 as_b105 Eb_b105 f_b105 rs_b105 (e2_orG 231 83 11 4 2147483648 2147483668 as_b104 Eb_b104 f_b104 rs_b104 (e2_orG 231 83 11 4 2147483648 2147483668 as_b103 Eb_b103 f_b103 rs_b103 (e2_orG 231 83 11 4 2147483648 2147483668 as_b102 Eb_b102 f_b102 rs_b102 (e2_orG 231 83 11 4 2147483648 2147483668 as_b101 Eb_b101 f_b101 rs_b101 (e2_orG 231 83 11 4 2147483648 2147483668 as_b100 Eb_b100 f_b100 rs_b100 (e2_orG 231 83 11 4 2147483648 2147483668 as_b99 Eb_b99 f_b99 rs_b99 (e2_orG 231 83 11 4 2147483648 2147483668 as_b98 Eb_b98 f_b98 rs_b98 (e2_orG 231 83 11 4 2147483648 2147483668 as_b97 Eb_b97 f_b97 rs_b97 (e2_orG 231 83 11 4 2147483648 2147483668 as_b96 Eb_b96 f_b96 rs_b96 (e2_orG 231 83 11 4 2147483648 2147483668 as_b95 Eb_b95 f_b95 rs_b95 (e2_orG 231 83 11 4 2147483648 2147483668 as_b94 Eb_b94 f_b94 rs_b94 (e2_cal S_b116 I_b116 4000 1))))))))))))))))))))) (e2_fin rs_b116) e2x_230 (e2_bpL cl_b116_e) (e2_cutA cl_b116_e) 4000 (e2_seek e2x_230 0) (e2_al 5 as_b116) [] E_b116 f_b116 = true := by decide +kernel
noncomputable def cl_b116_26 : List (Nat × e2_S) := [(2, e2_cutL (al_b116_26.set 2 (13, 12, 2147483657)) 4 (E_b116_26.take 4) h_b116_26),
  (49, e2_cutL (al_b116_27.set 2 (11, 2147483647, 2147483667)) 4 (E_b116_27.take 4) h_b116_27)]
set_option maxRecDepth 1000000 in
theorem ck_b116_26 : e2_runM (e2_orG 231 83 11 4 2147483648 2147483668 as_b113 Eb_b113 f_b113 rs_b113 (e2_orG 231 83 11 4 2147483648 2147483668 as_b112 Eb_b112 f_b112 rs_b112 (e2_orG 231 83 11 4 2147483648 2147483668 as_b111 Eb_b111 f_b111 rs_b111 (e2_orG 231 83 11 4 2147483648 2147483668 as_b110 Eb_b110 f_b110 rs_b110 (e2_orG 231 83 11 4 2147483648 2147483668 as_b109 Eb_b109 f_b109 rs_b109 (e2_orG 231 83 11 4 2147483648 2147483668 as_b108 Eb_b108 f_b108 rs_b108 (e2_orG 231 83 11 4 2147483648 2147483668 as_b107 Eb_b107 f_b107 rs_b107 (e2_orG 231 83 11 4 2147483648 2147483668 as_b106 Eb_b106 f_b106 rs_b106 (e2_orG 231 83 11 4 2147483648 2147483668 as_b105 Eb_b105 f_b105 rs_b105 (e2_orG 231 83 11 4 2147483648 2147483668 as_b104 Eb_b104 f_b104 rs_b104 (e2_orG 231 83 11 4 2147483648 2147483668 as_b103 Eb_b103 f_b103 rs_b103 (e2_orG 231 83 11 4 2147483648 2147483668 as_b102 Eb_b102 f_b102 rs_b102 (e2_orG 231 83 11 4 2147483648 2147483668 as_b101 Eb_b101 f_b101 rs_b101 (e2_orG 231 83 11 4 2147483648 2147483668 as_b100 Eb_b100 f_b100 rs_b100 (e2_orG 231 83 11 4 2147483648 2147483668 as_b99 Eb_b99 f_b99 rs_b99 (e2_orG 231 83 11 4 2147483648 2147483668 as_b98 Eb_b98 f_b98 rs_b98 (e2_orG 231 83 11 4 2147483648 2147483668 as_b97 Eb_b97 f_b97 rs_b97 (e2_orG 231 83 11 4 2147483648 2147483668 as_b96 Eb_b96 f_b96 rs_b96 (e2_orG 231 83 11 4 2147483648 2147483668 as_b95 Eb_b95 f_b95 rs_b95 (e2_orG 231 83 11 4 2147483648 2147483668 as_b94 Eb_b94 f_b94 rs_b94 (e2_cal S_b116 I_b116 4000 1))))))))))))))))))))) (e2_fin rs_b116) e2x_230 (e2_bpL cl_b116_26) (e2_cutA cl_b116_26) 4000 (e2_seek e2x_230 2) al_b116_26 [] E_b116_26 h_b116_26 = true := by decide +kernel
set_option maxRecDepth 1000000 in
theorem ci_b116_26 : e2_idl 4 (al_b116_26.set 2 (9, 0, 0)) = true := by decide +kernel
set_option maxRecDepth 1000000 in
theorem cj_b116_26 : e2_idh 4 8 h_b116_26 = true := by decide +kernel
noncomputable def cl_b116_27 : List (Nat × e2_S) := [(120, e2_cutS cu_b116_120),
  (55, e2_cutL (al_b116_28.set 3 (11, 2147483648, 2147483657)) 5 (E_b116_28.take 5) h_b116_28)]
set_option maxRecDepth 1000000 in
theorem ck_b116_27 : e2_runM (e2_orG 231 83 11 4 2147483648 2147483668 as_b113 Eb_b113 f_b113 rs_b113 (e2_orG 231 83 11 4 2147483648 2147483668 as_b112 Eb_b112 f_b112 rs_b112 (e2_orG 231 83 11 4 2147483648 2147483668 as_b111 Eb_b111 f_b111 rs_b111 (e2_orG 231 83 11 4 2147483648 2147483668 as_b110 Eb_b110 f_b110 rs_b110 (e2_orG 231 83 11 4 2147483648 2147483668 as_b109 Eb_b109 f_b109 rs_b109 (e2_orG 231 83 11 4 2147483648 2147483668 as_b108 Eb_b108 f_b108 rs_b108 (e2_orG 231 83 11 4 2147483648 2147483668 as_b107 Eb_b107 f_b107 rs_b107 (e2_orG 231 83 11 4 2147483648 2147483668 as_b106 Eb_b106 f_b106 rs_b106 (e2_orG 231 83 11 4 2147483648 2147483668 as_b105 Eb_b105 f_b105 rs_b105 (e2_orG 231 83 11 4 2147483648 2147483668 as_b104 Eb_b104 f_b104 rs_b104 (e2_orG 231 83 11 4 2147483648 2147483668 as_b103 Eb_b103 f_b103 rs_b103 (e2_orG 231 83 11 4 2147483648 2147483668 as_b102 Eb_b102 f_b102 rs_b102 (e2_orG 231 83 11 4 2147483648 2147483668 as_b101 Eb_b101 f_b101 rs_b101 (e2_orG 231 83 11 4 2147483648 2147483668 as_b100 Eb_b100 f_b100 rs_b100 (e2_orG 231 83 11 4 2147483648 2147483668 as_b99 Eb_b99 f_b99 rs_b99 (e2_orG 231 83 11 4 2147483648 2147483668 as_b98 Eb_b98 f_b98 rs_b98 (e2_orG 231 83 11 4 2147483648 2147483668 as_b97 Eb_b97 f_b97 rs_b97 (e2_orG 231 83 11 4 2147483648 2147483668 as_b96 Eb_b96 f_b96 rs_b96 (e2_orG 231 83 11 4 2147483648 2147483668 as_b95 Eb_b95 f_b95 rs_b95 (e2_orG 231 83 11 4 2147483648 2147483668 as_b94 Eb_b94 f_b94 rs_b94 (e2_cal S_b116 I_b116 4000 1))))))))))))))))))))) (e2_fin rs_b116) e2x_230 (e2_bpL cl_b116_27) (e2_cutA cl_b116_27) 4000 (e2_seek e2x_230 49) al_b116_27 [] E_b116_27 h_b116_27 = true := by decide +kernel
set_option maxRecDepth 1000000 in
theorem ci_b116_27 : e2_idl 4 (al_b116_27.set 2 (9, 0, 0)) = true := by decide +kernel
set_option maxRecDepth 1000000 in
theorem cj_b116_27 : e2_idh 4 8 h_b116_27 = true := by decide +kernel
noncomputable def cl_b116_28 : List (Nat × e2_S) := [(49, e2_cutL (al_b116_27.set 2 (12, 12, 2147483647)) 4 (E_b116_27.take 4) h_b116_27),
  (55, e2_cutL (al_b116_28.set 3 (13, 13, 2147483657)) 5 (E_b116_28.take 5) h_b116_28)]
set_option maxRecDepth 1000000 in
theorem ck_b116_28 : e2_runM (e2_orG 231 83 11 4 2147483648 2147483668 as_b113 Eb_b113 f_b113 rs_b113 (e2_orG 231 83 11 4 2147483648 2147483668 as_b112 Eb_b112 f_b112 rs_b112 (e2_orG 231 83 11 4 2147483648 2147483668 as_b111 Eb_b111 f_b111 rs_b111 (e2_orG 231 83 11 4 2147483648 2147483668 as_b110 Eb_b110 f_b110 rs_b110 (e2_orG 231 83 11 4 2147483648 2147483668 as_b109 Eb_b109 f_b109 rs_b109 (e2_orG 231 83 11 4 2147483648 2147483668 as_b108 Eb_b108 f_b108 rs_b108 (e2_orG 231 83 11 4 2147483648 2147483668 as_b107 Eb_b107 f_b107 rs_b107 (e2_orG 231 83 11 4 2147483648 2147483668 as_b106 Eb_b106 f_b106 rs_b106 (e2_orG 231 83 11 4 2147483648 2147483668 as_b105 Eb_b105 f_b105 rs_b105 (e2_orG 231 83 11 4 2147483648 2147483668 as_b104 Eb_b104 f_b104 rs_b104 (e2_orG 231 83 11 4 2147483648 2147483668 as_b103 Eb_b103 f_b103 rs_b103 (e2_orG 231 83 11 4 2147483648 2147483668 as_b102 Eb_b102 f_b102 rs_b102 (e2_orG 231 83 11 4 2147483648 2147483668 as_b101 Eb_b101 f_b101 rs_b101 (e2_orG 231 83 11 4 2147483648 2147483668 as_b100 Eb_b100 f_b100 rs_b100 (e2_orG 231 83 11 4 2147483648 2147483668 as_b99 Eb_b99 f_b99 rs_b99 (e2_orG 231 83 11 4 2147483648 2147483668 as_b98 Eb_b98 f_b98 rs_b98 (e2_orG 231 83 11 4 2147483648 2147483668 as_b97 Eb_b97 f_b97 rs_b97 (e2_orG 231 83 11 4 2147483648 2147483668 as_b96 Eb_b96 f_b96 rs_b96 (e2_orG 231 83 11 4 2147483648 2147483668 as_b95 Eb_b95 f_b95 rs_b95 (e2_orG 231 83 11 4 2147483648 2147483668 as_b94 Eb_b94 f_b94 rs_b94 (e2_cal S_b116 I_b116 4000 1))))))))))))))))))))) (e2_fin rs_b116) e2x_230 (e2_bpL cl_b116_28) (e2_cutA cl_b116_28) 4000 (e2_seek e2x_230 55) al_b116_28 [] E_b116_28 h_b116_28 = true := by decide +kernel
set_option maxRecDepth 1000000 in
theorem ci_b116_28 : e2_idl 5 (al_b116_28.set 3 (9, 0, 0)) = true := by decide +kernel
set_option maxRecDepth 1000000 in
theorem cj_b116_28 : e2_idh 5 8 h_b116_28 = true := by decide +kernel
set_option maxRecDepth 1000000 in
theorem ck_b116_u120 : e2_cutsB (e2_orG 231 83 11 4 2147483648 2147483668 as_b113 Eb_b113 f_b113 rs_b113 (e2_orG 231 83 11 4 2147483648 2147483668 as_b112 Eb_b112 f_b112 rs_b112 (e2_orG 231 83 11 4 2147483648 2147483668 as_b111 Eb_b111 f_b111 rs_b111 (e2_orG 231 83 11 4 2147483648 2147483668 as_b110 Eb_b110 f_b110 rs_b110 (e2_orG 231 83 11 4 2147483648 2147483668 as_b109 Eb_b109 f_b109 rs_b109 (e2_orG 231 83 11 4 2147483648 2147483668 as_b108 Eb_b108 f_b108 rs_b108 (e2_orG 231 83 11 4 2147483648 2147483668 as_b107 Eb_b107 f_b107 rs_b107 (e2_orG 231 83 11 4 2147483648 2147483668 as_b106 Eb_b106 f_b106 rs_b106 (e2_orG 231 83 11 4 2147483648 2147483668 as_b105 Eb_b105 f_b105 rs_b105 (e2_orG 231 83 11 4 2147483648 2147483668 as_b104 Eb_b104 f_b104 rs_b104 (e2_orG 231 83 11 4 2147483648 2147483668 as_b103 Eb_b103 f_b103 rs_b103 (e2_orG 231 83 11 4 2147483648 2147483668 as_b102 Eb_b102 f_b102 rs_b102 (e2_orG 231 83 11 4 2147483648 2147483668 as_b101 Eb_b101 f_b101 rs_b101 (e2_orG 231 83 11 4 2147483648 2147483668 as_b100 Eb_b100 f_b100 rs_b100 (e2_orG 231 83 11 4 2147483648 2147483668 as_b99 Eb_b99 f_b99 rs_b99 (e2_orG 231 83 11 4 2147483648 2147483668 as_b98 Eb_b98 f_b98 rs_b98 (e2_orG 231 83 11 4 2147483648 2147483668 as_b97 Eb_b97 f_b97 rs_b97 (e2_orG 231 83 11 4 2147483648 2147483668 as_b96 Eb_b96 f_b96 rs_b96 (e2_orG 231 83 11 4 2147483648 2147483668 as_b95 Eb_b95 f_b95 rs_b95 (e2_orG 231 83 11 4 2147483648 2147483668 as_b94 Eb_b94 f_b94 rs_b94 (e2_cal S_b116 I_b116 4000 1))))))))))))))))))))) (e2_fin rs_b116) e2x_230 120 4000 cu_b116_120 = true := by decide +kernel
set_option maxRecDepth 1000000 in
theorem cs_b116 (hen : en_ok) (l : Launch) : e2_smOk l 5 s_b116 := by
  refine e2_conC (H := 4) (C := evd_230) (call := (e2_orG 231 83 11 4 2147483648 2147483668 as_b113 Eb_b113 f_b113 rs_b113 (e2_orG 231 83 11 4 2147483648 2147483668 as_b112 Eb_b112 f_b112 rs_b112 (e2_orG 231 83 11 4 2147483648 2147483668 as_b111 Eb_b111 f_b111 rs_b111 (e2_orG 231 83 11 4 2147483648 2147483668 as_b110 Eb_b110 f_b110 rs_b110 (e2_orG 231 83 11 4 2147483648 2147483668 as_b109 Eb_b109 f_b109 rs_b109 (e2_orG 231 83 11 4 2147483648 2147483668 as_b108 Eb_b108 f_b108 rs_b108 (e2_orG 231 83 11 4 2147483648 2147483668 as_b107 Eb_b107 f_b107 rs_b107 (e2_orG 231 83 11 4 2147483648 2147483668 as_b106 Eb_b106 f_b106 rs_b106 (e2_orG 231 83 11 4 2147483648 2147483668 as_b105 Eb_b105 f_b105 rs_b105 (e2_orG 231 83 11 4 2147483648 2147483668 as_b104 Eb_b104 f_b104 rs_b104 (e2_orG 231 83 11 4 2147483648 2147483668 as_b103 Eb_b103 f_b103 rs_b103 (e2_orG 231 83 11 4 2147483648 2147483668 as_b102 Eb_b102 f_b102 rs_b102 (e2_orG 231 83 11 4 2147483648 2147483668 as_b101 Eb_b101 f_b101 rs_b101 (e2_orG 231 83 11 4 2147483648 2147483668 as_b100 Eb_b100 f_b100 rs_b100 (e2_orG 231 83 11 4 2147483648 2147483668 as_b99 Eb_b99 f_b99 rs_b99 (e2_orG 231 83 11 4 2147483648 2147483668 as_b98 Eb_b98 f_b98 rs_b98 (e2_orG 231 83 11 4 2147483648 2147483668 as_b97 Eb_b97 f_b97 rs_b97 (e2_orG 231 83 11 4 2147483648 2147483668 as_b96 Eb_b96 f_b96 rs_b96 (e2_orG 231 83 11 4 2147483648 2147483668 as_b95 Eb_b95 f_b95 rs_b95 (e2_orG 231 83 11 4 2147483648 2147483668 as_b94 Eb_b94 f_b94 rs_b94 (e2_cal S_b116 I_b116 4000 1)))))))))))))))))))))) ei_230 (fun d hd => (e2_orG_ok (k0 := 231) (a := 83) (j := 11) (n := 4) (lo := 2147483648) (hi := 2147483668) (as0 := as_b113) (Eb := Eb_b113) (f := f_b113) (res := rs_b113) (e2_orG_ok (k0 := 231) (a := 83) (j := 11) (n := 4) (lo := 2147483648) (hi := 2147483668) (as0 := as_b112) (Eb := Eb_b112) (f := f_b112) (res := rs_b112) (e2_orG_ok (k0 := 231) (a := 83) (j := 11) (n := 4) (lo := 2147483648) (hi := 2147483668) (as0 := as_b111) (Eb := Eb_b111) (f := f_b111) (res := rs_b111) (e2_orG_ok (k0 := 231) (a := 83) (j := 11) (n := 4) (lo := 2147483648) (hi := 2147483668) (as0 := as_b110) (Eb := Eb_b110) (f := f_b110) (res := rs_b110) (e2_orG_ok (k0 := 231) (a := 83) (j := 11) (n := 4) (lo := 2147483648) (hi := 2147483668) (as0 := as_b109) (Eb := Eb_b109) (f := f_b109) (res := rs_b109) (e2_orG_ok (k0 := 231) (a := 83) (j := 11) (n := 4) (lo := 2147483648) (hi := 2147483668) (as0 := as_b108) (Eb := Eb_b108) (f := f_b108) (res := rs_b108) (e2_orG_ok (k0 := 231) (a := 83) (j := 11) (n := 4) (lo := 2147483648) (hi := 2147483668) (as0 := as_b107) (Eb := Eb_b107) (f := f_b107) (res := rs_b107) (e2_orG_ok (k0 := 231) (a := 83) (j := 11) (n := 4) (lo := 2147483648) (hi := 2147483668) (as0 := as_b106) (Eb := Eb_b106) (f := f_b106) (res := rs_b106) (e2_orG_ok (k0 := 231) (a := 83) (j := 11) (n := 4) (lo := 2147483648) (hi := 2147483668) (as0 := as_b105) (Eb := Eb_b105) (f := f_b105) (res := rs_b105) (e2_orG_ok (k0 := 231) (a := 83) (j := 11) (n := 4) (lo := 2147483648) (hi := 2147483668) (as0 := as_b104) (Eb := Eb_b104) (f := f_b104) (res := rs_b104) (e2_orG_ok (k0 := 231) (a := 83) (j := 11) (n := 4) (lo := 2147483648) (hi := 2147483668) (as0 := as_b103) (Eb := Eb_b103) (f := f_b103) (res := rs_b103) (e2_orG_ok (k0 := 231) (a := 83) (j := 11) (n := 4) (lo := 2147483648) (hi := 2147483668) (as0 := as_b102) (Eb := Eb_b102) (f := f_b102) (res := rs_b102) (e2_orG_ok (k0 := 231) (a := 83) (j := 11) (n := 4) (lo := 2147483648) (hi := 2147483668) (as0 := as_b101) (Eb := Eb_b101) (f := f_b101) (res := rs_b101) (e2_orG_ok (k0 := 231) (a := 83) (j := 11) (n := 4) (lo := 2147483648) (hi := 2147483668) (as0 := as_b100) (Eb := Eb_b100) (f := f_b100) (res := rs_b100) (e2_orG_ok (k0 := 231) (a := 83) (j := 11) (n := 4) (lo := 2147483648) (hi := 2147483668) (as0 := as_b99) (Eb := Eb_b99) (f := f_b99) (res := rs_b99) (e2_orG_ok (k0 := 231) (a := 83) (j := 11) (n := 4) (lo := 2147483648) (hi := 2147483668) (as0 := as_b98) (Eb := Eb_b98) (f := f_b98) (res := rs_b98) (e2_orG_ok (k0 := 231) (a := 83) (j := 11) (n := 4) (lo := 2147483648) (hi := 2147483668) (as0 := as_b97) (Eb := Eb_b97) (f := f_b97) (res := rs_b97) (e2_orG_ok (k0 := 231) (a := 83) (j := 11) (n := 4) (lo := 2147483648) (hi := 2147483668) (as0 := as_b96) (Eb := Eb_b96) (f := f_b96) (res := rs_b96) (e2_orG_ok (k0 := 231) (a := 83) (j := 11) (n := 4) (lo := 2147483648) (hi := 2147483668) (as0 := as_b95) (Eb := Eb_b95) (f := f_b95) (res := rs_b95) (e2_orG_ok (k0 := 231) (a := 83) (j := 11) (n := 4) (lo := 2147483648) (hi := 2147483668) (as0 := as_b94) (Eb := Eb_b94) (f := f_b94) (res := rs_b94) (e2_cal_ok hen (e2_fa (cs_b44 hen l) (e2_fa (cs_b45 hen l) (e2_fa (cs_b46 hen l) (e2_fa (cs_b47 hen l) (e2_fa (cs_b48 hen l) (e2_fa (cs_b49 hen l) (e2_fa (cs_b50 hen l) (e2_fa (cs_b51 hen l) (e2_fa (cs_b52 hen l) (e2_fa (cs_b53 hen l) (e2_fa (cs_b54 hen l) (e2_fa (cs_b55 hen l) (e2_fa (cs_b56 hen l) (e2_fa (cs_b57 hen l) (e2_fa (cs_b58 hen l) (e2_fa (cs_b59 hen l) (e2_fa (cs_b60 hen l) (e2_fa (cs_b61 hen l) (e2_fa (cs_b62 hen l) (e2_fa (cs_b63 hen l) e2_fz)))))))))))))))))))) (e2_fa ein_216 (e2_fa ein_217 (e2_fa ein_227 e2_fz))) 1 d (by omega)) rfl (by decide +kernel) (fun M hM => (cs_b94 hen l).2 M hM d (by omega)) (e2_okGB_ok cog_b94)) rfl (by decide +kernel) (fun M hM => (cs_b95 hen l).2 M hM d (by omega)) (e2_okGB_ok cog_b95)) rfl (by decide +kernel) (fun M hM => (cs_b96 hen l).2 M hM d (by omega)) (e2_okGB_ok cog_b96)) rfl (by decide +kernel) (fun M hM => (cs_b97 hen l).2 M hM d (by omega)) (e2_okGB_ok cog_b97)) rfl (by decide +kernel) (fun M hM => (cs_b98 hen l).2 M hM d (by omega)) (e2_okGB_ok cog_b98)) rfl (by decide +kernel) (fun M hM => (cs_b99 hen l).2 M hM d (by omega)) (e2_okGB_ok cog_b99)) rfl (by decide +kernel) (fun M hM => (cs_b100 hen l).2 M hM d (by omega)) (e2_okGB_ok cog_b100)) rfl (by decide +kernel) (fun M hM => (cs_b101 hen l).2 M hM d (by omega)) (e2_okGB_ok cog_b101)) rfl (by decide +kernel) (fun M hM => (cs_b102 hen l).2 M hM d (by omega)) (e2_okGB_ok cog_b102)) rfl (by decide +kernel) (fun M hM => (cs_b103 hen l).2 M hM d (by omega)) (e2_okGB_ok cog_b103)) rfl (by decide +kernel) (fun M hM => (cs_b104 hen l).2 M hM d (by omega)) (e2_okGB_ok cog_b104)) rfl (by decide +kernel) (fun M hM => (cs_b105 hen l).2 M hM d (by omega)) (e2_okGB_ok cog_b105)) rfl (by decide +kernel) (fun M hM => (cs_b106 hen l).2 M hM d (by omega)) (e2_okGB_ok cog_b106)) rfl (by decide +kernel) (fun M hM => (cs_b107 hen l).2 M hM d (by omega)) (e2_okGB_ok cog_b107)) rfl (by decide +kernel) (fun M hM => (cs_b108 hen l).2 M hM d (by omega)) (e2_okGB_ok cog_b108)) rfl (by decide +kernel) (fun M hM => (cs_b109 hen l).2 M hM d (by omega)) (e2_okGB_ok cog_b109)) rfl (by decide +kernel) (fun M hM => (cs_b110 hen l).2 M hM d (by omega)) (e2_okGB_ok cog_b110)) rfl (by decide +kernel) (fun M hM => (cs_b111 hen l).2 M hM d (by omega)) (e2_okGB_ok cog_b111)) rfl (by decide +kernel) (fun M hM => (cs_b112 hen l).2 M hM d (by omega)) (e2_okGB_ok cog_b112)) rfl (by decide +kernel) (fun M hM => (cs_b113 hen l).2 M hM d (by omega)) (e2_okGB_ok cog_b113))) (by decide) co_b116 fun M d _ hC hcall p e R s m args below meth c Q D cA A ads r0 ha hl0 => ?_
  have EN_120 := e2_cutS_ok (bp := 120) (cuts := cu_b116_120) (e2_cuts_len hl0 (by decide +kernel)) (e2_cuts_ok hen ha hcall (hC [76, 192, 195]) (X := e2x_230) ex2_230 (e2_cuts_len hl0 (by decide +kernel)) ck_b116_u120)
  have L_27 : e2_gdM M p l e R s m args below meth c Q D cA A ads r0 49 al_b116_27 [] E_b116_27 h_b116_27 := by
    refine e2_indD (u := 4) (j := 2) (lo := 2147483647) (hi := 2147483667) hl0 (by decide) rfl rfl rfl ci_b116_27 cj_b116_27 ?_
    intro r_27 k_27 hk_27 hp_27 hs_27 hn_27
    have hl_27 : r_27.length ≤ 5 := hs_27.len rfl
    have ha_27 := ha.ext hp_27
    have L_28 : e2_gdM M p l e R s m args below meth c Q D cA A ads r_27 55 al_b116_28 [] E_b116_28 h_b116_28 := by
      refine e2_indL (u := 5) (j := 3) (lo := 2147483648) (hi := 2147483657) (b := 5) (dd := 0) hl_27 (by decide) rfl rfl (Or.inr ⟨rfl, rfl⟩) rfl ci_b116_28 cj_b116_28 ?_
      intro r_28 k_28 hk_28 hp_28 hs_28 hn_28
      have hl_28 : r_28.length ≤ 6 := hs_28.len rfl
      have ha_28 := ha_27.ext hp_28
      exact e2_fromM hen ha_28 hcall (e2_cutA_ok (e2_fa (fun al st E h hc => (hn_27 al st E h hc).ext hp_28) (e2_fa (fun al st E h hc => hn_28 al st E h hc) e2_fz))) (hC [76, 192, 195]) (X := e2x_230) ex2_230 55 ck_b116_28
    have EN_28 := e2_entL (u := 5) (j := 3) (lo := 2147483648) (hi := 2147483657) hl_27 rfl rfl rfl ci_b116_28 cj_b116_28 L_28
    exact e2_fromM hen ha_27 hcall (e2_cutA_ok (e2_fa (fun al st E h hc => (EN_120 al st E h hc).ext hp_27) (e2_fa (fun al st E h hc => EN_28 al st E h hc) e2_fz))) (hC [76, 192, 195]) (X := e2x_230) ex2_230 49 ck_b116_27
  have EN_27 := e2_entL (u := 4) (j := 2) (lo := 2147483647) (hi := 2147483667) hl0 rfl rfl rfl ci_b116_27 cj_b116_27 L_27
  have L_26 : e2_gdM M p l e R s m args below meth c Q D cA A ads r0 2 al_b116_26 [] E_b116_26 h_b116_26 := by
    refine e2_indL (u := 4) (j := 2) (lo := 2147483648) (hi := 2147483657) (b := 4) (dd := 0) hl0 (by decide) rfl rfl (Or.inr ⟨rfl, rfl⟩) rfl ci_b116_26 cj_b116_26 ?_
    intro r_26 k_26 hk_26 hp_26 hs_26 hn_26
    have hl_26 : r_26.length ≤ 5 := hs_26.len rfl
    have ha_26 := ha.ext hp_26
    exact e2_fromM hen ha_26 hcall (e2_cutA_ok (e2_fa (fun al st E h hc => hn_26 al st E h hc) (e2_fa (fun al st E h hc => (EN_27 al st E h hc).ext hp_26) e2_fz))) (hC [76, 192, 195]) (X := e2x_230) ex2_230 2 ck_b116_26
  have EN_26 := e2_entL (u := 4) (j := 2) (lo := 2147483648) (hi := 2147483657) hl0 rfl rfl rfl ci_b116_26 cj_b116_26 L_26
  exact e2_from hen ha hcall (e2_cutA_ok (e2_fa (fun al st E h hc => EN_26 al st E h hc) e2_fz)) (hC [76, 192, 195]) (X := e2x_230) ex2_230 0 ck_b116_e
/-! b117 X10_read -/
def as_b117 : List ev_V := [(2, 83, 0), (11, 0, 4294967295)]
def E_b117 : e2_E := [(2147483648, 2147583648, 0, 0), (2147483651, 2147483651, 1, 0), (2147483648, 2147483688, 2, 0), (2147483648, 2147483688, 3, 0)]
def bn1249 : e2_Q7 := (bn724, bn457)
def bn1250 : e2_Q8 := (bn477, bn1249)
noncomputable def f_b117 : ev_H := (bn1250 : e2_Q8)
noncomputable def q_b117_0 : ev_H := (bn1250 : e2_Q8)
noncomputable def rs_b117 : e2_Rs := [((11, 2147483647, 2147483668), q_b117_0)]
noncomputable def s_b117 : e2_Sm := (230, as_b117, E_b117, f_b117, rs_b117)
noncomputable def S_b117 : List e2_Sm := [s_b44, s_b45, s_b46, s_b47, s_b48, s_b49, s_b50, s_b51, s_b52, s_b53, s_b54, s_b55, s_b56, s_b57, s_b58, s_b59, s_b60, s_b61, s_b62, s_b63]
noncomputable def I_b117 : List e2_In := [(216, 1, e2x_216), (217, 1, e2x_217), (227, 2, e2x_227)]
set_option maxRecDepth 1000000 in
theorem co_b117 : e2_okSB E_b117.length as_b117 f_b117 rs_b117 = true := by decide +kernel
def al_b117_26 : List ev_V := [(2, 83, 0), (11, 0, 4294967295), (1, 4, 4294967296), (9, 0, 0), (9, 0, 0)]
def E_b117_26 : e2_E := [(2147483648, 2147583648, 0, 0), (2147483651, 2147483651, 1, 0), (2147483648, 2147483688, 2, 0), (2147483648, 2147483688, 3, 0), (2147483648, 2147483657, 4, 0)]
noncomputable def h_b117_26 : ev_H := (bn1250 : e2_Q8)
def al_b117_27 : List ev_V := [(2, 83, 0), (11, 0, 4294967295), (1, 4, 4294967296), (9, 0, 0), (9, 0, 0)]
def E_b117_27 : e2_E := [(2147483648, 2147583648, 0, 0), (2147483651, 2147483651, 1, 0), (2147483648, 2147483688, 2, 0), (2147483648, 2147483688, 3, 0), (2147483647, 2147483667, 4, 0)]
noncomputable def h_b117_27 : ev_H := (bn1250 : e2_Q8)
def al_b117_28 : List ev_V := [(2, 83, 0), (11, 0, 4294967295), (1, 4, 4294967296), (1, 5, 4294967296), (9, 0, 0)]
def E_b117_28 : e2_E := [(2147483648, 2147583648, 0, 0), (2147483651, 2147483651, 1, 0), (2147483648, 2147483688, 2, 0), (2147483648, 2147483688, 3, 0), (2147483648, 2147483667, 4, 0), (2147483648, 2147483657, 5, 0)]
noncomputable def h_b117_28 : ev_H := (bn1250 : e2_Q8)
def bn1251 : e2_Q7 := (bn724, bn1038)
def bn1252 : e2_Q8 := (bn477, bn1251)
noncomputable def h_b117_0 : ev_H := (bn1252 : e2_Q8)
def bn1253 : e2_Q7 := (bn724, bn1050)
def bn1254 : e2_Q8 := (bn477, bn1253)
noncomputable def h_b117_1 : ev_H := (bn1254 : e2_Q8)
def bn1255 : e2_Q7 := (bn724, bn1058)
def bn1256 : e2_Q8 := (bn477, bn1255)
noncomputable def h_b117_2 : ev_H := (bn1256 : e2_Q8)
def bn1257 : e2_Q7 := (bn724, bn1066)
def bn1258 : e2_Q8 := (bn477, bn1257)
noncomputable def h_b117_3 : ev_H := (bn1258 : e2_Q8)
def bn1259 : e2_Q7 := (bn724, bn1074)
def bn1260 : e2_Q8 := (bn477, bn1259)
noncomputable def h_b117_4 : ev_H := (bn1260 : e2_Q8)
def bn1261 : e2_Q7 := (bn724, bn1082)
def bn1262 : e2_Q8 := (bn477, bn1261)
noncomputable def h_b117_5 : ev_H := (bn1262 : e2_Q8)
def bn1263 : e2_Q7 := (bn724, bn1090)
def bn1264 : e2_Q8 := (bn477, bn1263)
noncomputable def h_b117_6 : ev_H := (bn1264 : e2_Q8)
def bn1265 : e2_Q7 := (bn724, bn1098)
def bn1266 : e2_Q8 := (bn477, bn1265)
noncomputable def h_b117_7 : ev_H := (bn1266 : e2_Q8)
def bn1267 : e2_Q7 := (bn724, bn1106)
def bn1268 : e2_Q8 := (bn477, bn1267)
noncomputable def h_b117_8 : ev_H := (bn1268 : e2_Q8)
def bn1269 : e2_Q7 := (bn724, bn1114)
def bn1270 : e2_Q8 := (bn477, bn1269)
noncomputable def h_b117_9 : ev_H := (bn1270 : e2_Q8)
def bn1271 : e2_Q7 := (bn724, bn1122)
def bn1272 : e2_Q8 := (bn477, bn1271)
noncomputable def h_b117_10 : ev_H := (bn1272 : e2_Q8)
def bn1273 : e2_Q7 := (bn724, bn1130)
def bn1274 : e2_Q8 := (bn477, bn1273)
noncomputable def h_b117_11 : ev_H := (bn1274 : e2_Q8)
def bn1275 : e2_Q7 := (bn724, bn1138)
def bn1276 : e2_Q8 := (bn477, bn1275)
noncomputable def h_b117_12 : ev_H := (bn1276 : e2_Q8)
def bn1277 : e2_Q7 := (bn724, bn1146)
def bn1278 : e2_Q8 := (bn477, bn1277)
noncomputable def h_b117_13 : ev_H := (bn1278 : e2_Q8)
def bn1279 : e2_Q7 := (bn724, bn1154)
def bn1280 : e2_Q8 := (bn477, bn1279)
noncomputable def h_b117_14 : ev_H := (bn1280 : e2_Q8)
def bn1281 : e2_Q7 := (bn724, bn1162)
def bn1282 : e2_Q8 := (bn477, bn1281)
noncomputable def h_b117_15 : ev_H := (bn1282 : e2_Q8)
def bn1283 : e2_Q7 := (bn724, bn1170)
def bn1284 : e2_Q8 := (bn477, bn1283)
noncomputable def h_b117_16 : ev_H := (bn1284 : e2_Q8)
def bn1285 : e2_Q7 := (bn724, bn1178)
def bn1286 : e2_Q8 := (bn477, bn1285)
noncomputable def h_b117_17 : ev_H := (bn1286 : e2_Q8)
def bn1287 : e2_Q7 := (bn724, bn1186)
def bn1288 : e2_Q8 := (bn477, bn1287)
noncomputable def h_b117_18 : ev_H := (bn1288 : e2_Q8)
def bn1289 : e2_Q7 := (bn724, bn1194)
def bn1290 : e2_Q8 := (bn477, bn1289)
noncomputable def h_b117_19 : ev_H := (bn1290 : e2_Q8)
noncomputable def h_b117_20 : ev_H := (bn1250 : e2_Q8)
def bn1291 : e2_Q7 := (bn724, bn1202)
def bn1292 : e2_Q8 := (bn477, bn1291)
noncomputable def h_b117_21 : ev_H := (bn1292 : e2_Q8)
noncomputable def h_b117_22 : ev_H := (bn1292 : e2_Q8)
noncomputable def h_b117_23 : ev_H := (bn1292 : e2_Q8)
noncomputable def h_b117_24 : ev_H := (bn1292 : e2_Q8)
noncomputable def h_b117_25 : ev_H := (bn1292 : e2_Q8)
noncomputable def cu_b117_120 : List e2_Cu := [([(2, 83, 0), (11, 0, 4294967295), (0, 0, 0), (0, 8, 0), (9, 0, 0)], [(2147483648, 2147583648, 0, 0), (2147483651, 2147483651, 1, 0), (2147483648, 2147483688, 2, 0), (2147483648, 2147483688, 3, 0)], h_b117_0),
  ([(2, 83, 0), (11, 0, 4294967295), (0, 1, 0), (11, 2147483648, 2147483656), (11, 2147483647, 2147483650)], [(2147483648, 2147583648, 0, 0), (2147483651, 2147483651, 1, 0), (2147483648, 2147483688, 2, 0), (2147483648, 2147483688, 3, 0)], h_b117_1),
  ([(2, 83, 0), (11, 0, 4294967295), (0, 2, 0), (11, 2147483648, 2147483656), (11, 2147483647, 2147483650)], [(2147483648, 2147583648, 0, 0), (2147483651, 2147483651, 1, 0), (2147483648, 2147483688, 2, 0), (2147483648, 2147483688, 3, 0)], h_b117_2),
  ([(2, 83, 0), (11, 0, 4294967295), (0, 3, 0), (11, 2147483648, 2147483656), (11, 2147483647, 2147483650)], [(2147483648, 2147583648, 0, 0), (2147483651, 2147483651, 1, 0), (2147483648, 2147483688, 2, 0), (2147483648, 2147483688, 3, 0)], h_b117_3),
  ([(2, 83, 0), (11, 0, 4294967295), (0, 4, 0), (11, 2147483648, 2147483656), (11, 2147483647, 2147483650)], [(2147483648, 2147583648, 0, 0), (2147483651, 2147483651, 1, 0), (2147483648, 2147483688, 2, 0), (2147483648, 2147483688, 3, 0)], h_b117_4),
  ([(2, 83, 0), (11, 0, 4294967295), (0, 5, 0), (11, 2147483648, 2147483656), (11, 2147483647, 2147483650)], [(2147483648, 2147583648, 0, 0), (2147483651, 2147483651, 1, 0), (2147483648, 2147483688, 2, 0), (2147483648, 2147483688, 3, 0)], h_b117_5),
  ([(2, 83, 0), (11, 0, 4294967295), (0, 6, 0), (11, 2147483648, 2147483656), (11, 2147483647, 2147483650)], [(2147483648, 2147583648, 0, 0), (2147483651, 2147483651, 1, 0), (2147483648, 2147483688, 2, 0), (2147483648, 2147483688, 3, 0)], h_b117_6),
  ([(2, 83, 0), (11, 0, 4294967295), (0, 7, 0), (11, 2147483648, 2147483656), (11, 2147483647, 2147483650)], [(2147483648, 2147583648, 0, 0), (2147483651, 2147483651, 1, 0), (2147483648, 2147483688, 2, 0), (2147483648, 2147483688, 3, 0)], h_b117_7),
  ([(2, 83, 0), (11, 0, 4294967295), (0, 8, 0), (11, 2147483648, 2147483656), (11, 2147483647, 2147483650)], [(2147483648, 2147583648, 0, 0), (2147483651, 2147483651, 1, 0), (2147483648, 2147483688, 2, 0), (2147483648, 2147483688, 3, 0)], h_b117_8),
  ([(2, 83, 0), (11, 0, 4294967295), (0, 9, 0), (11, 2147483648, 2147483656), (11, 2147483647, 2147483650)], [(2147483648, 2147583648, 0, 0), (2147483651, 2147483651, 1, 0), (2147483648, 2147483688, 2, 0), (2147483648, 2147483688, 3, 0)], h_b117_9),
  ([(2, 83, 0), (11, 0, 4294967295), (0, 10, 0), (11, 2147483648, 2147483656), (11, 2147483647, 2147483650)], [(2147483648, 2147583648, 0, 0), (2147483651, 2147483651, 1, 0), (2147483648, 2147483688, 2, 0), (2147483648, 2147483688, 3, 0)], h_b117_10),
  ([(2, 83, 0), (11, 0, 4294967295), (0, 11, 0), (11, 2147483648, 2147483656), (11, 2147483647, 2147483650)], [(2147483648, 2147583648, 0, 0), (2147483651, 2147483651, 1, 0), (2147483648, 2147483688, 2, 0), (2147483648, 2147483688, 3, 0)], h_b117_11),
  ([(2, 83, 0), (11, 0, 4294967295), (0, 12, 0), (11, 2147483648, 2147483656), (11, 2147483647, 2147483650)], [(2147483648, 2147583648, 0, 0), (2147483651, 2147483651, 1, 0), (2147483648, 2147483688, 2, 0), (2147483648, 2147483688, 3, 0)], h_b117_12),
  ([(2, 83, 0), (11, 0, 4294967295), (0, 13, 0), (11, 2147483648, 2147483656), (11, 2147483647, 2147483650)], [(2147483648, 2147583648, 0, 0), (2147483651, 2147483651, 1, 0), (2147483648, 2147483688, 2, 0), (2147483648, 2147483688, 3, 0)], h_b117_13),
  ([(2, 83, 0), (11, 0, 4294967295), (0, 14, 0), (11, 2147483648, 2147483656), (11, 2147483647, 2147483650)], [(2147483648, 2147583648, 0, 0), (2147483651, 2147483651, 1, 0), (2147483648, 2147483688, 2, 0), (2147483648, 2147483688, 3, 0)], h_b117_14),
  ([(2, 83, 0), (11, 0, 4294967295), (0, 15, 0), (11, 2147483648, 2147483656), (11, 2147483647, 2147483650)], [(2147483648, 2147583648, 0, 0), (2147483651, 2147483651, 1, 0), (2147483648, 2147483688, 2, 0), (2147483648, 2147483688, 3, 0)], h_b117_15),
  ([(2, 83, 0), (11, 0, 4294967295), (0, 16, 0), (11, 2147483648, 2147483656), (11, 2147483647, 2147483650)], [(2147483648, 2147583648, 0, 0), (2147483651, 2147483651, 1, 0), (2147483648, 2147483688, 2, 0), (2147483648, 2147483688, 3, 0)], h_b117_16),
  ([(2, 83, 0), (11, 0, 4294967295), (0, 17, 0), (11, 2147483648, 2147483656), (11, 2147483647, 2147483650)], [(2147483648, 2147583648, 0, 0), (2147483651, 2147483651, 1, 0), (2147483648, 2147483688, 2, 0), (2147483648, 2147483688, 3, 0)], h_b117_17),
  ([(2, 83, 0), (11, 0, 4294967295), (0, 18, 0), (11, 2147483648, 2147483656), (11, 2147483647, 2147483650)], [(2147483648, 2147583648, 0, 0), (2147483651, 2147483651, 1, 0), (2147483648, 2147483688, 2, 0), (2147483648, 2147483688, 3, 0)], h_b117_18),
  ([(2, 83, 0), (11, 0, 4294967295), (0, 19, 0), (11, 2147483648, 2147483656), (11, 2147483647, 2147483650)], [(2147483648, 2147583648, 0, 0), (2147483651, 2147483651, 1, 0), (2147483648, 2147483688, 2, 0), (2147483648, 2147483688, 3, 0)], h_b117_19),
  ([(2, 83, 0), (11, 0, 4294967295), (0, 20, 0), (11, 2147483648, 2147483656), (11, 2147483647, 2147483650)], [(2147483648, 2147583648, 0, 0), (2147483651, 2147483651, 1, 0), (2147483648, 2147483688, 2, 0), (2147483648, 2147483688, 3, 0)], h_b117_20),
  ([(2, 83, 0), (11, 0, 4294967295), (0, 21, 0), (11, 2147483648, 2147483650), (11, 2147483648, 2147483650)], [(2147483648, 2147583648, 0, 0), (2147483651, 2147483651, 1, 0), (2147483648, 2147483688, 2, 0), (2147483648, 2147483688, 3, 0)], h_b117_21),
  ([(2, 83, 0), (11, 0, 4294967295), (0, 22, 0), (11, 2147483648, 2147483650), (11, 2147483648, 2147483650)], [(2147483648, 2147583648, 0, 0), (2147483651, 2147483651, 1, 0), (2147483648, 2147483688, 2, 0), (2147483648, 2147483688, 3, 0)], h_b117_22),
  ([(2, 83, 0), (11, 0, 4294967295), (0, 23, 0), (11, 2147483648, 2147483650), (11, 2147483648, 2147483650)], [(2147483648, 2147583648, 0, 0), (2147483651, 2147483651, 1, 0), (2147483648, 2147483688, 2, 0), (2147483648, 2147483688, 3, 0)], h_b117_23),
  ([(2, 83, 0), (11, 0, 4294967295), (0, 24, 0), (11, 2147483648, 2147483650), (11, 2147483648, 2147483650)], [(2147483648, 2147583648, 0, 0), (2147483651, 2147483651, 1, 0), (2147483648, 2147483688, 2, 0), (2147483648, 2147483688, 3, 0)], h_b117_24),
  ([(2, 83, 0), (11, 0, 4294967295), (0, 25, 0), (11, 2147483648, 2147483650), (11, 2147483648, 2147483650)], [(2147483648, 2147583648, 0, 0), (2147483651, 2147483651, 1, 0), (2147483648, 2147483688, 2, 0), (2147483648, 2147483688, 3, 0)], h_b117_25)]
noncomputable def cl_b117_e : List (Nat × e2_S) := [(2, e2_cutL (al_b117_26.set 2 (11, 2147483648, 2147483657)) 4 (E_b117_26.take 4) h_b117_26)]
set_option maxRecDepth 1000000 in
theorem ck_b117_e : e2_run (e2_orG 231 83 11 4 2147483648 2147483668 as_b113 Eb_b113 f_b113 rs_b113 (e2_orG 231 83 11 4 2147483648 2147483668 as_b112 Eb_b112 f_b112 rs_b112 (e2_orG 231 83 11 4 2147483648 2147483668 as_b111 Eb_b111 f_b111 rs_b111 (e2_orG 231 83 11 4 2147483648 2147483668 as_b110 Eb_b110 f_b110 rs_b110 (e2_orG 231 83 11 4 2147483648 2147483668 as_b109 Eb_b109 f_b109 rs_b109 (e2_orG 231 83 11 4 2147483648 2147483668 as_b108 Eb_b108 f_b108 rs_b108 (e2_orG 231 83 11 4 2147483648 2147483668 as_b107 Eb_b107 f_b107 rs_b107 (e2_orG 231 83 11 4 2147483648 2147483668 as_b106 Eb_b106 f_b106 rs_b106 (e2_orG 231 83 11 4 2147483648 2147483668 as_b105 Eb_b105 f_b105 rs_b105 (e2_orG 231 83 11 4 2147483648 2147483668 as_b104 Eb_b104 f_b104 rs_b104 (e2_orG 231 83 11 4 2147483648 2147483668 as_b103 Eb_b103 f_b103 rs_b103 (e2_orG 231 83 11 4 2147483648 2147483668 as_b102 Eb_b102 f_b102 rs_b102 (e2_orG 231 83 11 4 2147483648 2147483668 as_b101 Eb_b101 f_b101 rs_b101 (e2_orG 231 83 11 4 2147483648 2147483668 as_b100 Eb_b100 f_b100 rs_b100 (e2_orG 231 83 11 4 2147483648 2147483668 as_b99 Eb_b99 f_b99 rs_b99 (e2_orG 231 83 11 4 2147483648 2147483668 as_b98 Eb_b98 f_b98 rs_b98 (e2_orG 231 83 11 4 2147483648 2147483668 as_b97 Eb_b97 f_b97 rs_b97 (e2_orG 231 83 11 4 2147483648 2147483668 as_b96 Eb_b96 f_b96 rs_b96 (e2_orG 231 83 11 4 2147483648 2147483668 as_b95 Eb_b95 f_b95 rs_b95 (e2_orG 231 83 11 4 2147483648 2147483668 as_b94 Eb_b94 f_b94 rs_b94 (e2_cal S_b117 I_b117 4000 1))))))))))))))))))))) (e2_fin rs_b117) e2x_230 (e2_bpL cl_b117_e) (e2_cutA cl_b117_e) 4000 (e2_seek e2x_230 0) (e2_al 5 as_b117) [] E_b117 f_b117 = true := by decide +kernel
noncomputable def cl_b117_26 : List (Nat × e2_S) := [(2, e2_cutL (al_b117_26.set 2 (13, 12, 2147483657)) 4 (E_b117_26.take 4) h_b117_26),
  (49, e2_cutL (al_b117_27.set 2 (11, 2147483647, 2147483667)) 4 (E_b117_27.take 4) h_b117_27)]
set_option maxRecDepth 1000000 in
theorem ck_b117_26 : e2_runM (e2_orG 231 83 11 4 2147483648 2147483668 as_b113 Eb_b113 f_b113 rs_b113 (e2_orG 231 83 11 4 2147483648 2147483668 as_b112 Eb_b112 f_b112 rs_b112 (e2_orG 231 83 11 4 2147483648 2147483668 as_b111 Eb_b111 f_b111 rs_b111 (e2_orG 231 83 11 4 2147483648 2147483668 as_b110 Eb_b110 f_b110 rs_b110 (e2_orG 231 83 11 4 2147483648 2147483668 as_b109 Eb_b109 f_b109 rs_b109 (e2_orG 231 83 11 4 2147483648 2147483668 as_b108 Eb_b108 f_b108 rs_b108 (e2_orG 231 83 11 4 2147483648 2147483668 as_b107 Eb_b107 f_b107 rs_b107 (e2_orG 231 83 11 4 2147483648 2147483668 as_b106 Eb_b106 f_b106 rs_b106 (e2_orG 231 83 11 4 2147483648 2147483668 as_b105 Eb_b105 f_b105 rs_b105 (e2_orG 231 83 11 4 2147483648 2147483668 as_b104 Eb_b104 f_b104 rs_b104 (e2_orG 231 83 11 4 2147483648 2147483668 as_b103 Eb_b103 f_b103 rs_b103 (e2_orG 231 83 11 4 2147483648 2147483668 as_b102 Eb_b102 f_b102 rs_b102 (e2_orG 231 83 11 4 2147483648 2147483668 as_b101 Eb_b101 f_b101 rs_b101 (e2_orG 231 83 11 4 2147483648 2147483668 as_b100 Eb_b100 f_b100 rs_b100 (e2_orG 231 83 11 4 2147483648 2147483668 as_b99 Eb_b99 f_b99 rs_b99 (e2_orG 231 83 11 4 2147483648 2147483668 as_b98 Eb_b98 f_b98 rs_b98 (e2_orG 231 83 11 4 2147483648 2147483668 as_b97 Eb_b97 f_b97 rs_b97 (e2_orG 231 83 11 4 2147483648 2147483668 as_b96 Eb_b96 f_b96 rs_b96 (e2_orG 231 83 11 4 2147483648 2147483668 as_b95 Eb_b95 f_b95 rs_b95 (e2_orG 231 83 11 4 2147483648 2147483668 as_b94 Eb_b94 f_b94 rs_b94 (e2_cal S_b117 I_b117 4000 1))))))))))))))))))))) (e2_fin rs_b117) e2x_230 (e2_bpL cl_b117_26) (e2_cutA cl_b117_26) 4000 (e2_seek e2x_230 2) al_b117_26 [] E_b117_26 h_b117_26 = true := by decide +kernel
set_option maxRecDepth 1000000 in
theorem ci_b117_26 : e2_idl 4 (al_b117_26.set 2 (9, 0, 0)) = true := by decide +kernel
set_option maxRecDepth 1000000 in
theorem cj_b117_26 : e2_idh 4 8 h_b117_26 = true := by decide +kernel
noncomputable def cl_b117_27 : List (Nat × e2_S) := [(120, e2_cutS cu_b117_120),
  (55, e2_cutL (al_b117_28.set 3 (11, 2147483648, 2147483657)) 5 (E_b117_28.take 5) h_b117_28)]
set_option maxRecDepth 1000000 in
theorem ck_b117_27 : e2_runM (e2_orG 231 83 11 4 2147483648 2147483668 as_b113 Eb_b113 f_b113 rs_b113 (e2_orG 231 83 11 4 2147483648 2147483668 as_b112 Eb_b112 f_b112 rs_b112 (e2_orG 231 83 11 4 2147483648 2147483668 as_b111 Eb_b111 f_b111 rs_b111 (e2_orG 231 83 11 4 2147483648 2147483668 as_b110 Eb_b110 f_b110 rs_b110 (e2_orG 231 83 11 4 2147483648 2147483668 as_b109 Eb_b109 f_b109 rs_b109 (e2_orG 231 83 11 4 2147483648 2147483668 as_b108 Eb_b108 f_b108 rs_b108 (e2_orG 231 83 11 4 2147483648 2147483668 as_b107 Eb_b107 f_b107 rs_b107 (e2_orG 231 83 11 4 2147483648 2147483668 as_b106 Eb_b106 f_b106 rs_b106 (e2_orG 231 83 11 4 2147483648 2147483668 as_b105 Eb_b105 f_b105 rs_b105 (e2_orG 231 83 11 4 2147483648 2147483668 as_b104 Eb_b104 f_b104 rs_b104 (e2_orG 231 83 11 4 2147483648 2147483668 as_b103 Eb_b103 f_b103 rs_b103 (e2_orG 231 83 11 4 2147483648 2147483668 as_b102 Eb_b102 f_b102 rs_b102 (e2_orG 231 83 11 4 2147483648 2147483668 as_b101 Eb_b101 f_b101 rs_b101 (e2_orG 231 83 11 4 2147483648 2147483668 as_b100 Eb_b100 f_b100 rs_b100 (e2_orG 231 83 11 4 2147483648 2147483668 as_b99 Eb_b99 f_b99 rs_b99 (e2_orG 231 83 11 4 2147483648 2147483668 as_b98 Eb_b98 f_b98 rs_b98 (e2_orG 231 83 11 4 2147483648 2147483668 as_b97 Eb_b97 f_b97 rs_b97 (e2_orG 231 83 11 4 2147483648 2147483668 as_b96 Eb_b96 f_b96 rs_b96 (e2_orG 231 83 11 4 2147483648 2147483668 as_b95 Eb_b95 f_b95 rs_b95 (e2_orG 231 83 11 4 2147483648 2147483668 as_b94 Eb_b94 f_b94 rs_b94 (e2_cal S_b117 I_b117 4000 1))))))))))))))))))))) (e2_fin rs_b117) e2x_230 (e2_bpL cl_b117_27) (e2_cutA cl_b117_27) 4000 (e2_seek e2x_230 49) al_b117_27 [] E_b117_27 h_b117_27 = true := by decide +kernel
set_option maxRecDepth 1000000 in
theorem ci_b117_27 : e2_idl 4 (al_b117_27.set 2 (9, 0, 0)) = true := by decide +kernel
set_option maxRecDepth 1000000 in
theorem cj_b117_27 : e2_idh 4 8 h_b117_27 = true := by decide +kernel
noncomputable def cl_b117_28 : List (Nat × e2_S) := [(49, e2_cutL (al_b117_27.set 2 (12, 12, 2147483647)) 4 (E_b117_27.take 4) h_b117_27),
  (55, e2_cutL (al_b117_28.set 3 (13, 13, 2147483657)) 5 (E_b117_28.take 5) h_b117_28)]
set_option maxRecDepth 1000000 in
theorem ck_b117_28 : e2_runM (e2_orG 231 83 11 4 2147483648 2147483668 as_b113 Eb_b113 f_b113 rs_b113 (e2_orG 231 83 11 4 2147483648 2147483668 as_b112 Eb_b112 f_b112 rs_b112 (e2_orG 231 83 11 4 2147483648 2147483668 as_b111 Eb_b111 f_b111 rs_b111 (e2_orG 231 83 11 4 2147483648 2147483668 as_b110 Eb_b110 f_b110 rs_b110 (e2_orG 231 83 11 4 2147483648 2147483668 as_b109 Eb_b109 f_b109 rs_b109 (e2_orG 231 83 11 4 2147483648 2147483668 as_b108 Eb_b108 f_b108 rs_b108 (e2_orG 231 83 11 4 2147483648 2147483668 as_b107 Eb_b107 f_b107 rs_b107 (e2_orG 231 83 11 4 2147483648 2147483668 as_b106 Eb_b106 f_b106 rs_b106 (e2_orG 231 83 11 4 2147483648 2147483668 as_b105 Eb_b105 f_b105 rs_b105 (e2_orG 231 83 11 4 2147483648 2147483668 as_b104 Eb_b104 f_b104 rs_b104 (e2_orG 231 83 11 4 2147483648 2147483668 as_b103 Eb_b103 f_b103 rs_b103 (e2_orG 231 83 11 4 2147483648 2147483668 as_b102 Eb_b102 f_b102 rs_b102 (e2_orG 231 83 11 4 2147483648 2147483668 as_b101 Eb_b101 f_b101 rs_b101 (e2_orG 231 83 11 4 2147483648 2147483668 as_b100 Eb_b100 f_b100 rs_b100 (e2_orG 231 83 11 4 2147483648 2147483668 as_b99 Eb_b99 f_b99 rs_b99 (e2_orG 231 83 11 4 2147483648 2147483668 as_b98 Eb_b98 f_b98 rs_b98 (e2_orG 231 83 11 4 2147483648 2147483668 as_b97 Eb_b97 f_b97 rs_b97 (e2_orG 231 83 11 4 2147483648 2147483668 as_b96 Eb_b96 f_b96 rs_b96 (e2_orG 231 83 11 4 2147483648 2147483668 as_b95 Eb_b95 f_b95 rs_b95 (e2_orG 231 83 11 4 2147483648 2147483668 as_b94 Eb_b94 f_b94 rs_b94 (e2_cal S_b117 I_b117 4000 1))))))))))))))))))))) (e2_fin rs_b117) e2x_230 (e2_bpL cl_b117_28) (e2_cutA cl_b117_28) 4000 (e2_seek e2x_230 55) al_b117_28 [] E_b117_28 h_b117_28 = true := by decide +kernel
set_option maxRecDepth 1000000 in
theorem ci_b117_28 : e2_idl 5 (al_b117_28.set 3 (9, 0, 0)) = true := by decide +kernel
set_option maxRecDepth 1000000 in
theorem cj_b117_28 : e2_idh 5 8 h_b117_28 = true := by decide +kernel
set_option maxRecDepth 1000000 in
theorem ck_b117_u120 : e2_cutsB (e2_orG 231 83 11 4 2147483648 2147483668 as_b113 Eb_b113 f_b113 rs_b113 (e2_orG 231 83 11 4 2147483648 2147483668 as_b112 Eb_b112 f_b112 rs_b112 (e2_orG 231 83 11 4 2147483648 2147483668 as_b111 Eb_b111 f_b111 rs_b111 (e2_orG 231 83 11 4 2147483648 2147483668 as_b110 Eb_b110 f_b110 rs_b110 (e2_orG 231 83 11 4 2147483648 2147483668 as_b109 Eb_b109 f_b109 rs_b109 (e2_orG 231 83 11 4 2147483648 2147483668 as_b108 Eb_b108 f_b108 rs_b108 (e2_orG 231 83 11 4 2147483648 2147483668 as_b107 Eb_b107 f_b107 rs_b107 (e2_orG 231 83 11 4 2147483648 2147483668 as_b106 Eb_b106 f_b106 rs_b106 (e2_orG 231 83 11 4 2147483648 2147483668 as_b105 Eb_b105 f_b105 rs_b105 (e2_orG 231 83 11 4 2147483648 2147483668 as_b104 Eb_b104 f_b104 rs_b104 (e2_orG 231 83 11 4 2147483648 2147483668 as_b103 Eb_b103 f_b103 rs_b103 (e2_orG 231 83 11 4 2147483648 2147483668 as_b102 Eb_b102 f_b102 rs_b102 (e2_orG 231 83 11 4 2147483648 2147483668 as_b101 Eb_b101 f_b101 rs_b101 (e2_orG 231 83 11 4 2147483648 2147483668 as_b100 Eb_b100 f_b100 rs_b100 (e2_orG 231 83 11 4 2147483648 2147483668 as_b99 Eb_b99 f_b99 rs_b99 (e2_orG 231 83 11 4 2147483648 2147483668 as_b98 Eb_b98 f_b98 rs_b98 (e2_orG 231 83 11 4 2147483648 2147483668 as_b97 Eb_b97 f_b97 rs_b97 (e2_orG 231 83 11 4 2147483648 2147483668 as_b96 Eb_b96 f_b96 rs_b96 (e2_orG 231 83 11 4 2147483648 2147483668 as_b95 Eb_b95 f_b95 rs_b95 (e2_orG 231 83 11 4 2147483648 2147483668 as_b94 Eb_b94 f_b94 rs_b94 (e2_cal S_b117 I_b117 4000 1))))))))))))))))))))) (e2_fin rs_b117) e2x_230 120 4000 cu_b117_120 = true := by decide +kernel
set_option maxRecDepth 1000000 in
theorem cs_b117 (hen : en_ok) (l : Launch) : e2_smOk l 5 s_b117 := by
  refine e2_conC (H := 4) (C := evd_230) (call := (e2_orG 231 83 11 4 2147483648 2147483668 as_b113 Eb_b113 f_b113 rs_b113 (e2_orG 231 83 11 4 2147483648 2147483668 as_b112 Eb_b112 f_b112 rs_b112 (e2_orG 231 83 11 4 2147483648 2147483668 as_b111 Eb_b111 f_b111 rs_b111 (e2_orG 231 83 11 4 2147483648 2147483668 as_b110 Eb_b110 f_b110 rs_b110 (e2_orG 231 83 11 4 2147483648 2147483668 as_b109 Eb_b109 f_b109 rs_b109 (e2_orG 231 83 11 4 2147483648 2147483668 as_b108 Eb_b108 f_b108 rs_b108 (e2_orG 231 83 11 4 2147483648 2147483668 as_b107 Eb_b107 f_b107 rs_b107 (e2_orG 231 83 11 4 2147483648 2147483668 as_b106 Eb_b106 f_b106 rs_b106 (e2_orG 231 83 11 4 2147483648 2147483668 as_b105 Eb_b105 f_b105 rs_b105 (e2_orG 231 83 11 4 2147483648 2147483668 as_b104 Eb_b104 f_b104 rs_b104 (e2_orG 231 83 11 4 2147483648 2147483668 as_b103 Eb_b103 f_b103 rs_b103 (e2_orG 231 83 11 4 2147483648 2147483668 as_b102 Eb_b102 f_b102 rs_b102 (e2_orG 231 83 11 4 2147483648 2147483668 as_b101 Eb_b101 f_b101 rs_b101 (e2_orG 231 83 11 4 2147483648 2147483668 as_b100 Eb_b100 f_b100 rs_b100 (e2_orG 231 83 11 4 2147483648 2147483668 as_b99 Eb_b99 f_b99 rs_b99 (e2_orG 231 83 11 4 2147483648 2147483668 as_b98 Eb_b98 f_b98 rs_b98 (e2_orG 231 83 11 4 2147483648 2147483668 as_b97 Eb_b97 f_b97 rs_b97 (e2_orG 231 83 11 4 2147483648 2147483668 as_b96 Eb_b96 f_b96 rs_b96 (e2_orG 231 83 11 4 2147483648 2147483668 as_b95 Eb_b95 f_b95 rs_b95 (e2_orG 231 83 11 4 2147483648 2147483668 as_b94 Eb_b94 f_b94 rs_b94 (e2_cal S_b117 I_b117 4000 1)))))))))))))))))))))) ei_230 (fun d hd => (e2_orG_ok (k0 := 231) (a := 83) (j := 11) (n := 4) (lo := 2147483648) (hi := 2147483668) (as0 := as_b113) (Eb := Eb_b113) (f := f_b113) (res := rs_b113) (e2_orG_ok (k0 := 231) (a := 83) (j := 11) (n := 4) (lo := 2147483648) (hi := 2147483668) (as0 := as_b112) (Eb := Eb_b112) (f := f_b112) (res := rs_b112) (e2_orG_ok (k0 := 231) (a := 83) (j := 11) (n := 4) (lo := 2147483648) (hi := 2147483668) (as0 := as_b111) (Eb := Eb_b111) (f := f_b111) (res := rs_b111) (e2_orG_ok (k0 := 231) (a := 83) (j := 11) (n := 4) (lo := 2147483648) (hi := 2147483668) (as0 := as_b110) (Eb := Eb_b110) (f := f_b110) (res := rs_b110) (e2_orG_ok (k0 := 231) (a := 83) (j := 11) (n := 4) (lo := 2147483648) (hi := 2147483668) (as0 := as_b109) (Eb := Eb_b109) (f := f_b109) (res := rs_b109) (e2_orG_ok (k0 := 231) (a := 83) (j := 11) (n := 4) (lo := 2147483648) (hi := 2147483668) (as0 := as_b108) (Eb := Eb_b108) (f := f_b108) (res := rs_b108) (e2_orG_ok (k0 := 231) (a := 83) (j := 11) (n := 4) (lo := 2147483648) (hi := 2147483668) (as0 := as_b107) (Eb := Eb_b107) (f := f_b107) (res := rs_b107) (e2_orG_ok (k0 := 231) (a := 83) (j := 11) (n := 4) (lo := 2147483648) (hi := 2147483668) (as0 := as_b106) (Eb := Eb_b106) (f := f_b106) (res := rs_b106) (e2_orG_ok (k0 := 231) (a := 83) (j := 11) (n := 4) (lo := 2147483648) (hi := 2147483668) (as0 := as_b105) (Eb := Eb_b105) (f := f_b105) (res := rs_b105) (e2_orG_ok (k0 := 231) (a := 83) (j := 11) (n := 4) (lo := 2147483648) (hi := 2147483668) (as0 := as_b104) (Eb := Eb_b104) (f := f_b104) (res := rs_b104) (e2_orG_ok (k0 := 231) (a := 83) (j := 11) (n := 4) (lo := 2147483648) (hi := 2147483668) (as0 := as_b103) (Eb := Eb_b103) (f := f_b103) (res := rs_b103) (e2_orG_ok (k0 := 231) (a := 83) (j := 11) (n := 4) (lo := 2147483648) (hi := 2147483668) (as0 := as_b102) (Eb := Eb_b102) (f := f_b102) (res := rs_b102) (e2_orG_ok (k0 := 231) (a := 83) (j := 11) (n := 4) (lo := 2147483648) (hi := 2147483668) (as0 := as_b101) (Eb := Eb_b101) (f := f_b101) (res := rs_b101) (e2_orG_ok (k0 := 231) (a := 83) (j := 11) (n := 4) (lo := 2147483648) (hi := 2147483668) (as0 := as_b100) (Eb := Eb_b100) (f := f_b100) (res := rs_b100) (e2_orG_ok (k0 := 231) (a := 83) (j := 11) (n := 4) (lo := 2147483648) (hi := 2147483668) (as0 := as_b99) (Eb := Eb_b99) (f := f_b99) (res := rs_b99) (e2_orG_ok (k0 := 231) (a := 83) (j := 11) (n := 4) (lo := 2147483648) (hi := 2147483668) (as0 := as_b98) (Eb := Eb_b98) (f := f_b98) (res := rs_b98) (e2_orG_ok (k0 := 231) (a := 83) (j := 11) (n := 4) (lo := 2147483648) (hi := 2147483668) (as0 := as_b97) (Eb := Eb_b97) (f := f_b97) (res := rs_b97) (e2_orG_ok (k0 := 231) (a := 83) (j := 11) (n := 4) (lo := 2147483648) (hi := 2147483668) (as0 := as_b96) (Eb := Eb_b96) (f := f_b96) (res := rs_b96) (e2_orG_ok (k0 := 231) (a := 83) (j := 11) (n := 4) (lo := 2147483648) (hi := 2147483668) (as0 := as_b95) (Eb := Eb_b95) (f := f_b95) (res := rs_b95) (e2_orG_ok (k0 := 231) (a := 83) (j := 11) (n := 4) (lo := 2147483648) (hi := 2147483668) (as0 := as_b94) (Eb := Eb_b94) (f := f_b94) (res := rs_b94) (e2_cal_ok hen (e2_fa (cs_b44 hen l) (e2_fa (cs_b45 hen l) (e2_fa (cs_b46 hen l) (e2_fa (cs_b47 hen l) (e2_fa (cs_b48 hen l) (e2_fa (cs_b49 hen l) (e2_fa (cs_b50 hen l) (e2_fa (cs_b51 hen l) (e2_fa (cs_b52 hen l) (e2_fa (cs_b53 hen l) (e2_fa (cs_b54 hen l) (e2_fa (cs_b55 hen l) (e2_fa (cs_b56 hen l) (e2_fa (cs_b57 hen l) (e2_fa (cs_b58 hen l) (e2_fa (cs_b59 hen l) (e2_fa (cs_b60 hen l) (e2_fa (cs_b61 hen l) (e2_fa (cs_b62 hen l) (e2_fa (cs_b63 hen l) e2_fz)))))))))))))))))))) (e2_fa ein_216 (e2_fa ein_217 (e2_fa ein_227 e2_fz))) 1 d (by omega)) rfl (by decide +kernel) (fun M hM => (cs_b94 hen l).2 M hM d (by omega)) (e2_okGB_ok cog_b94)) rfl (by decide +kernel) (fun M hM => (cs_b95 hen l).2 M hM d (by omega)) (e2_okGB_ok cog_b95)) rfl (by decide +kernel) (fun M hM => (cs_b96 hen l).2 M hM d (by omega)) (e2_okGB_ok cog_b96)) rfl (by decide +kernel) (fun M hM => (cs_b97 hen l).2 M hM d (by omega)) (e2_okGB_ok cog_b97)) rfl (by decide +kernel) (fun M hM => (cs_b98 hen l).2 M hM d (by omega)) (e2_okGB_ok cog_b98)) rfl (by decide +kernel) (fun M hM => (cs_b99 hen l).2 M hM d (by omega)) (e2_okGB_ok cog_b99)) rfl (by decide +kernel) (fun M hM => (cs_b100 hen l).2 M hM d (by omega)) (e2_okGB_ok cog_b100)) rfl (by decide +kernel) (fun M hM => (cs_b101 hen l).2 M hM d (by omega)) (e2_okGB_ok cog_b101)) rfl (by decide +kernel) (fun M hM => (cs_b102 hen l).2 M hM d (by omega)) (e2_okGB_ok cog_b102)) rfl (by decide +kernel) (fun M hM => (cs_b103 hen l).2 M hM d (by omega)) (e2_okGB_ok cog_b103)) rfl (by decide +kernel) (fun M hM => (cs_b104 hen l).2 M hM d (by omega)) (e2_okGB_ok cog_b104)) rfl (by decide +kernel) (fun M hM => (cs_b105 hen l).2 M hM d (by omega)) (e2_okGB_ok cog_b105)) rfl (by decide +kernel) (fun M hM => (cs_b106 hen l).2 M hM d (by omega)) (e2_okGB_ok cog_b106)) rfl (by decide +kernel) (fun M hM => (cs_b107 hen l).2 M hM d (by omega)) (e2_okGB_ok cog_b107)) rfl (by decide +kernel) (fun M hM => (cs_b108 hen l).2 M hM d (by omega)) (e2_okGB_ok cog_b108)) rfl (by decide +kernel) (fun M hM => (cs_b109 hen l).2 M hM d (by omega)) (e2_okGB_ok cog_b109)) rfl (by decide +kernel) (fun M hM => (cs_b110 hen l).2 M hM d (by omega)) (e2_okGB_ok cog_b110)) rfl (by decide +kernel) (fun M hM => (cs_b111 hen l).2 M hM d (by omega)) (e2_okGB_ok cog_b111)) rfl (by decide +kernel) (fun M hM => (cs_b112 hen l).2 M hM d (by omega)) (e2_okGB_ok cog_b112)) rfl (by decide +kernel) (fun M hM => (cs_b113 hen l).2 M hM d (by omega)) (e2_okGB_ok cog_b113))) (by decide) co_b117 fun M d _ hC hcall p e R s m args below meth c Q D cA A ads r0 ha hl0 => ?_
  have EN_120 := e2_cutS_ok (bp := 120) (cuts := cu_b117_120) (e2_cuts_len hl0 (by decide +kernel)) (e2_cuts_ok hen ha hcall (hC [76, 192, 195]) (X := e2x_230) ex2_230 (e2_cuts_len hl0 (by decide +kernel)) ck_b117_u120)
  have L_27 : e2_gdM M p l e R s m args below meth c Q D cA A ads r0 49 al_b117_27 [] E_b117_27 h_b117_27 := by
    refine e2_indD (u := 4) (j := 2) (lo := 2147483647) (hi := 2147483667) hl0 (by decide) rfl rfl rfl ci_b117_27 cj_b117_27 ?_
    intro r_27 k_27 hk_27 hp_27 hs_27 hn_27
    have hl_27 : r_27.length ≤ 5 := hs_27.len rfl
    have ha_27 := ha.ext hp_27
    have L_28 : e2_gdM M p l e R s m args below meth c Q D cA A ads r_27 55 al_b117_28 [] E_b117_28 h_b117_28 := by
      refine e2_indL (u := 5) (j := 3) (lo := 2147483648) (hi := 2147483657) (b := 5) (dd := 0) hl_27 (by decide) rfl rfl (Or.inr ⟨rfl, rfl⟩) rfl ci_b117_28 cj_b117_28 ?_
      intro r_28 k_28 hk_28 hp_28 hs_28 hn_28
      have hl_28 : r_28.length ≤ 6 := hs_28.len rfl
      have ha_28 := ha_27.ext hp_28
      exact e2_fromM hen ha_28 hcall (e2_cutA_ok (e2_fa (fun al st E h hc => (hn_27 al st E h hc).ext hp_28) (e2_fa (fun al st E h hc => hn_28 al st E h hc) e2_fz))) (hC [76, 192, 195]) (X := e2x_230) ex2_230 55 ck_b117_28
    have EN_28 := e2_entL (u := 5) (j := 3) (lo := 2147483648) (hi := 2147483657) hl_27 rfl rfl rfl ci_b117_28 cj_b117_28 L_28
    exact e2_fromM hen ha_27 hcall (e2_cutA_ok (e2_fa (fun al st E h hc => (EN_120 al st E h hc).ext hp_27) (e2_fa (fun al st E h hc => EN_28 al st E h hc) e2_fz))) (hC [76, 192, 195]) (X := e2x_230) ex2_230 49 ck_b117_27
  have EN_27 := e2_entL (u := 4) (j := 2) (lo := 2147483647) (hi := 2147483667) hl0 rfl rfl rfl ci_b117_27 cj_b117_27 L_27
  have L_26 : e2_gdM M p l e R s m args below meth c Q D cA A ads r0 2 al_b117_26 [] E_b117_26 h_b117_26 := by
    refine e2_indL (u := 4) (j := 2) (lo := 2147483648) (hi := 2147483657) (b := 4) (dd := 0) hl0 (by decide) rfl rfl (Or.inr ⟨rfl, rfl⟩) rfl ci_b117_26 cj_b117_26 ?_
    intro r_26 k_26 hk_26 hp_26 hs_26 hn_26
    have hl_26 : r_26.length ≤ 5 := hs_26.len rfl
    have ha_26 := ha.ext hp_26
    exact e2_fromM hen ha_26 hcall (e2_cutA_ok (e2_fa (fun al st E h hc => hn_26 al st E h hc) (e2_fa (fun al st E h hc => (EN_27 al st E h hc).ext hp_26) e2_fz))) (hC [76, 192, 195]) (X := e2x_230) ex2_230 2 ck_b117_26
  have EN_26 := e2_entL (u := 4) (j := 2) (lo := 2147483648) (hi := 2147483657) hl0 rfl rfl rfl ci_b117_26 cj_b117_26 L_26
  exact e2_from hen ha hcall (e2_cutA_ok (e2_fa (fun al st E h hc => EN_26 al st E h hc) e2_fz)) (hC [76, 192, 195]) (X := e2x_230) ex2_230 0 ck_b117_e
/-! b118 X10_read -/
def as_b118 : List ev_V := [(2, 83, 0), (11, 0, 4294967295)]
def E_b118 : e2_E := [(2147483648, 2147583648, 0, 0), (2147483652, 2147483652, 1, 0), (2147483648, 2147483688, 2, 0), (2147483648, 2147483688, 3, 0)]
def bn1293 : e2_Q7 := (bn774, bn457)
def bn1294 : e2_Q8 := (bn477, bn1293)
noncomputable def f_b118 : ev_H := (bn1294 : e2_Q8)
noncomputable def q_b118_0 : ev_H := (bn1294 : e2_Q8)
noncomputable def rs_b118 : e2_Rs := [((11, 2147483647, 2147483668), q_b118_0)]
noncomputable def s_b118 : e2_Sm := (230, as_b118, E_b118, f_b118, rs_b118)
noncomputable def S_b118 : List e2_Sm := [s_b44, s_b45, s_b46, s_b47, s_b48, s_b49, s_b50, s_b51, s_b52, s_b53, s_b54, s_b55, s_b56, s_b57, s_b58, s_b59, s_b60, s_b61, s_b62, s_b63]
noncomputable def I_b118 : List e2_In := [(216, 1, e2x_216), (217, 1, e2x_217), (227, 2, e2x_227)]
set_option maxRecDepth 1000000 in
theorem co_b118 : e2_okSB E_b118.length as_b118 f_b118 rs_b118 = true := by decide +kernel
def al_b118_26 : List ev_V := [(2, 83, 0), (11, 0, 4294967295), (1, 4, 4294967296), (9, 0, 0), (9, 0, 0)]
def E_b118_26 : e2_E := [(2147483648, 2147583648, 0, 0), (2147483652, 2147483652, 1, 0), (2147483648, 2147483688, 2, 0), (2147483648, 2147483688, 3, 0), (2147483648, 2147483657, 4, 0)]
noncomputable def h_b118_26 : ev_H := (bn1294 : e2_Q8)
def al_b118_27 : List ev_V := [(2, 83, 0), (11, 0, 4294967295), (1, 4, 4294967296), (9, 0, 0), (9, 0, 0)]
def E_b118_27 : e2_E := [(2147483648, 2147583648, 0, 0), (2147483652, 2147483652, 1, 0), (2147483648, 2147483688, 2, 0), (2147483648, 2147483688, 3, 0), (2147483647, 2147483667, 4, 0)]
noncomputable def h_b118_27 : ev_H := (bn1294 : e2_Q8)
def al_b118_28 : List ev_V := [(2, 83, 0), (11, 0, 4294967295), (1, 4, 4294967296), (1, 5, 4294967296), (9, 0, 0)]
def E_b118_28 : e2_E := [(2147483648, 2147583648, 0, 0), (2147483652, 2147483652, 1, 0), (2147483648, 2147483688, 2, 0), (2147483648, 2147483688, 3, 0), (2147483648, 2147483667, 4, 0), (2147483648, 2147483657, 5, 0)]
noncomputable def h_b118_28 : ev_H := (bn1294 : e2_Q8)
def bn1295 : e2_Q7 := (bn774, bn1038)
def bn1296 : e2_Q8 := (bn477, bn1295)
noncomputable def h_b118_0 : ev_H := (bn1296 : e2_Q8)
def bn1297 : e2_Q7 := (bn774, bn1050)
def bn1298 : e2_Q8 := (bn477, bn1297)
noncomputable def h_b118_1 : ev_H := (bn1298 : e2_Q8)
def bn1299 : e2_Q7 := (bn774, bn1058)
def bn1300 : e2_Q8 := (bn477, bn1299)
noncomputable def h_b118_2 : ev_H := (bn1300 : e2_Q8)
def bn1301 : e2_Q7 := (bn774, bn1066)
def bn1302 : e2_Q8 := (bn477, bn1301)
noncomputable def h_b118_3 : ev_H := (bn1302 : e2_Q8)
def bn1303 : e2_Q7 := (bn774, bn1074)
def bn1304 : e2_Q8 := (bn477, bn1303)
noncomputable def h_b118_4 : ev_H := (bn1304 : e2_Q8)
def bn1305 : e2_Q7 := (bn774, bn1082)
def bn1306 : e2_Q8 := (bn477, bn1305)
noncomputable def h_b118_5 : ev_H := (bn1306 : e2_Q8)
def bn1307 : e2_Q7 := (bn774, bn1090)
def bn1308 : e2_Q8 := (bn477, bn1307)
noncomputable def h_b118_6 : ev_H := (bn1308 : e2_Q8)
def bn1309 : e2_Q7 := (bn774, bn1098)
def bn1310 : e2_Q8 := (bn477, bn1309)
noncomputable def h_b118_7 : ev_H := (bn1310 : e2_Q8)
def bn1311 : e2_Q7 := (bn774, bn1106)
def bn1312 : e2_Q8 := (bn477, bn1311)
noncomputable def h_b118_8 : ev_H := (bn1312 : e2_Q8)
def bn1313 : e2_Q7 := (bn774, bn1114)
def bn1314 : e2_Q8 := (bn477, bn1313)
noncomputable def h_b118_9 : ev_H := (bn1314 : e2_Q8)
def bn1315 : e2_Q7 := (bn774, bn1122)
def bn1316 : e2_Q8 := (bn477, bn1315)
noncomputable def h_b118_10 : ev_H := (bn1316 : e2_Q8)
def bn1317 : e2_Q7 := (bn774, bn1130)
def bn1318 : e2_Q8 := (bn477, bn1317)
noncomputable def h_b118_11 : ev_H := (bn1318 : e2_Q8)
def bn1319 : e2_Q7 := (bn774, bn1138)
def bn1320 : e2_Q8 := (bn477, bn1319)
noncomputable def h_b118_12 : ev_H := (bn1320 : e2_Q8)
def bn1321 : e2_Q7 := (bn774, bn1146)
def bn1322 : e2_Q8 := (bn477, bn1321)
noncomputable def h_b118_13 : ev_H := (bn1322 : e2_Q8)
def bn1323 : e2_Q7 := (bn774, bn1154)
def bn1324 : e2_Q8 := (bn477, bn1323)
noncomputable def h_b118_14 : ev_H := (bn1324 : e2_Q8)
def bn1325 : e2_Q7 := (bn774, bn1162)
def bn1326 : e2_Q8 := (bn477, bn1325)
noncomputable def h_b118_15 : ev_H := (bn1326 : e2_Q8)
def bn1327 : e2_Q7 := (bn774, bn1170)
def bn1328 : e2_Q8 := (bn477, bn1327)
noncomputable def h_b118_16 : ev_H := (bn1328 : e2_Q8)
def bn1329 : e2_Q7 := (bn774, bn1178)
def bn1330 : e2_Q8 := (bn477, bn1329)
noncomputable def h_b118_17 : ev_H := (bn1330 : e2_Q8)
def bn1331 : e2_Q7 := (bn774, bn1186)
def bn1332 : e2_Q8 := (bn477, bn1331)
noncomputable def h_b118_18 : ev_H := (bn1332 : e2_Q8)
def bn1333 : e2_Q7 := (bn774, bn1194)
def bn1334 : e2_Q8 := (bn477, bn1333)
noncomputable def h_b118_19 : ev_H := (bn1334 : e2_Q8)
noncomputable def h_b118_20 : ev_H := (bn1294 : e2_Q8)
def bn1335 : e2_Q7 := (bn774, bn1202)
def bn1336 : e2_Q8 := (bn477, bn1335)
noncomputable def h_b118_21 : ev_H := (bn1336 : e2_Q8)
noncomputable def h_b118_22 : ev_H := (bn1336 : e2_Q8)
noncomputable def h_b118_23 : ev_H := (bn1336 : e2_Q8)
noncomputable def h_b118_24 : ev_H := (bn1336 : e2_Q8)
noncomputable def h_b118_25 : ev_H := (bn1336 : e2_Q8)
noncomputable def cu_b118_120 : List e2_Cu := [([(2, 83, 0), (11, 0, 4294967295), (0, 0, 0), (0, 8, 0), (9, 0, 0)], [(2147483648, 2147583648, 0, 0), (2147483652, 2147483652, 1, 0), (2147483648, 2147483688, 2, 0), (2147483648, 2147483688, 3, 0)], h_b118_0),
  ([(2, 83, 0), (11, 0, 4294967295), (0, 1, 0), (11, 2147483648, 2147483656), (11, 2147483647, 2147483651)], [(2147483648, 2147583648, 0, 0), (2147483652, 2147483652, 1, 0), (2147483648, 2147483688, 2, 0), (2147483648, 2147483688, 3, 0)], h_b118_1),
  ([(2, 83, 0), (11, 0, 4294967295), (0, 2, 0), (11, 2147483648, 2147483656), (11, 2147483647, 2147483651)], [(2147483648, 2147583648, 0, 0), (2147483652, 2147483652, 1, 0), (2147483648, 2147483688, 2, 0), (2147483648, 2147483688, 3, 0)], h_b118_2),
  ([(2, 83, 0), (11, 0, 4294967295), (0, 3, 0), (11, 2147483648, 2147483656), (11, 2147483647, 2147483651)], [(2147483648, 2147583648, 0, 0), (2147483652, 2147483652, 1, 0), (2147483648, 2147483688, 2, 0), (2147483648, 2147483688, 3, 0)], h_b118_3),
  ([(2, 83, 0), (11, 0, 4294967295), (0, 4, 0), (11, 2147483648, 2147483656), (11, 2147483647, 2147483651)], [(2147483648, 2147583648, 0, 0), (2147483652, 2147483652, 1, 0), (2147483648, 2147483688, 2, 0), (2147483648, 2147483688, 3, 0)], h_b118_4),
  ([(2, 83, 0), (11, 0, 4294967295), (0, 5, 0), (11, 2147483648, 2147483656), (11, 2147483647, 2147483651)], [(2147483648, 2147583648, 0, 0), (2147483652, 2147483652, 1, 0), (2147483648, 2147483688, 2, 0), (2147483648, 2147483688, 3, 0)], h_b118_5),
  ([(2, 83, 0), (11, 0, 4294967295), (0, 6, 0), (11, 2147483648, 2147483656), (11, 2147483647, 2147483651)], [(2147483648, 2147583648, 0, 0), (2147483652, 2147483652, 1, 0), (2147483648, 2147483688, 2, 0), (2147483648, 2147483688, 3, 0)], h_b118_6),
  ([(2, 83, 0), (11, 0, 4294967295), (0, 7, 0), (11, 2147483648, 2147483656), (11, 2147483647, 2147483651)], [(2147483648, 2147583648, 0, 0), (2147483652, 2147483652, 1, 0), (2147483648, 2147483688, 2, 0), (2147483648, 2147483688, 3, 0)], h_b118_7),
  ([(2, 83, 0), (11, 0, 4294967295), (0, 8, 0), (11, 2147483648, 2147483656), (11, 2147483647, 2147483651)], [(2147483648, 2147583648, 0, 0), (2147483652, 2147483652, 1, 0), (2147483648, 2147483688, 2, 0), (2147483648, 2147483688, 3, 0)], h_b118_8),
  ([(2, 83, 0), (11, 0, 4294967295), (0, 9, 0), (11, 2147483648, 2147483656), (11, 2147483647, 2147483651)], [(2147483648, 2147583648, 0, 0), (2147483652, 2147483652, 1, 0), (2147483648, 2147483688, 2, 0), (2147483648, 2147483688, 3, 0)], h_b118_9),
  ([(2, 83, 0), (11, 0, 4294967295), (0, 10, 0), (11, 2147483648, 2147483656), (11, 2147483647, 2147483651)], [(2147483648, 2147583648, 0, 0), (2147483652, 2147483652, 1, 0), (2147483648, 2147483688, 2, 0), (2147483648, 2147483688, 3, 0)], h_b118_10),
  ([(2, 83, 0), (11, 0, 4294967295), (0, 11, 0), (11, 2147483648, 2147483656), (11, 2147483647, 2147483651)], [(2147483648, 2147583648, 0, 0), (2147483652, 2147483652, 1, 0), (2147483648, 2147483688, 2, 0), (2147483648, 2147483688, 3, 0)], h_b118_11),
  ([(2, 83, 0), (11, 0, 4294967295), (0, 12, 0), (11, 2147483648, 2147483656), (11, 2147483647, 2147483651)], [(2147483648, 2147583648, 0, 0), (2147483652, 2147483652, 1, 0), (2147483648, 2147483688, 2, 0), (2147483648, 2147483688, 3, 0)], h_b118_12),
  ([(2, 83, 0), (11, 0, 4294967295), (0, 13, 0), (11, 2147483648, 2147483656), (11, 2147483647, 2147483651)], [(2147483648, 2147583648, 0, 0), (2147483652, 2147483652, 1, 0), (2147483648, 2147483688, 2, 0), (2147483648, 2147483688, 3, 0)], h_b118_13),
  ([(2, 83, 0), (11, 0, 4294967295), (0, 14, 0), (11, 2147483648, 2147483656), (11, 2147483647, 2147483651)], [(2147483648, 2147583648, 0, 0), (2147483652, 2147483652, 1, 0), (2147483648, 2147483688, 2, 0), (2147483648, 2147483688, 3, 0)], h_b118_14),
  ([(2, 83, 0), (11, 0, 4294967295), (0, 15, 0), (11, 2147483648, 2147483656), (11, 2147483647, 2147483651)], [(2147483648, 2147583648, 0, 0), (2147483652, 2147483652, 1, 0), (2147483648, 2147483688, 2, 0), (2147483648, 2147483688, 3, 0)], h_b118_15),
  ([(2, 83, 0), (11, 0, 4294967295), (0, 16, 0), (11, 2147483648, 2147483656), (11, 2147483647, 2147483651)], [(2147483648, 2147583648, 0, 0), (2147483652, 2147483652, 1, 0), (2147483648, 2147483688, 2, 0), (2147483648, 2147483688, 3, 0)], h_b118_16),
  ([(2, 83, 0), (11, 0, 4294967295), (0, 17, 0), (11, 2147483648, 2147483656), (11, 2147483647, 2147483651)], [(2147483648, 2147583648, 0, 0), (2147483652, 2147483652, 1, 0), (2147483648, 2147483688, 2, 0), (2147483648, 2147483688, 3, 0)], h_b118_17),
  ([(2, 83, 0), (11, 0, 4294967295), (0, 18, 0), (11, 2147483648, 2147483656), (11, 2147483647, 2147483651)], [(2147483648, 2147583648, 0, 0), (2147483652, 2147483652, 1, 0), (2147483648, 2147483688, 2, 0), (2147483648, 2147483688, 3, 0)], h_b118_18),
  ([(2, 83, 0), (11, 0, 4294967295), (0, 19, 0), (11, 2147483648, 2147483656), (11, 2147483647, 2147483651)], [(2147483648, 2147583648, 0, 0), (2147483652, 2147483652, 1, 0), (2147483648, 2147483688, 2, 0), (2147483648, 2147483688, 3, 0)], h_b118_19),
  ([(2, 83, 0), (11, 0, 4294967295), (0, 20, 0), (11, 2147483648, 2147483656), (11, 2147483647, 2147483651)], [(2147483648, 2147583648, 0, 0), (2147483652, 2147483652, 1, 0), (2147483648, 2147483688, 2, 0), (2147483648, 2147483688, 3, 0)], h_b118_20),
  ([(2, 83, 0), (11, 0, 4294967295), (0, 21, 0), (11, 2147483648, 2147483651), (11, 2147483648, 2147483651)], [(2147483648, 2147583648, 0, 0), (2147483652, 2147483652, 1, 0), (2147483648, 2147483688, 2, 0), (2147483648, 2147483688, 3, 0)], h_b118_21),
  ([(2, 83, 0), (11, 0, 4294967295), (0, 22, 0), (11, 2147483648, 2147483651), (11, 2147483648, 2147483651)], [(2147483648, 2147583648, 0, 0), (2147483652, 2147483652, 1, 0), (2147483648, 2147483688, 2, 0), (2147483648, 2147483688, 3, 0)], h_b118_22),
  ([(2, 83, 0), (11, 0, 4294967295), (0, 23, 0), (11, 2147483648, 2147483651), (11, 2147483648, 2147483651)], [(2147483648, 2147583648, 0, 0), (2147483652, 2147483652, 1, 0), (2147483648, 2147483688, 2, 0), (2147483648, 2147483688, 3, 0)], h_b118_23),
  ([(2, 83, 0), (11, 0, 4294967295), (0, 24, 0), (11, 2147483648, 2147483651), (11, 2147483648, 2147483651)], [(2147483648, 2147583648, 0, 0), (2147483652, 2147483652, 1, 0), (2147483648, 2147483688, 2, 0), (2147483648, 2147483688, 3, 0)], h_b118_24),
  ([(2, 83, 0), (11, 0, 4294967295), (0, 25, 0), (11, 2147483648, 2147483651), (11, 2147483648, 2147483651)], [(2147483648, 2147583648, 0, 0), (2147483652, 2147483652, 1, 0), (2147483648, 2147483688, 2, 0), (2147483648, 2147483688, 3, 0)], h_b118_25)]
noncomputable def cl_b118_e : List (Nat × e2_S) := [(2, e2_cutL (al_b118_26.set 2 (11, 2147483648, 2147483657)) 4 (E_b118_26.take 4) h_b118_26)]
set_option maxRecDepth 1000000 in
theorem ck_b118_e : e2_run (e2_orG 231 83 11 4 2147483648 2147483668 as_b113 Eb_b113 f_b113 rs_b113 (e2_orG 231 83 11 4 2147483648 2147483668 as_b112 Eb_b112 f_b112 rs_b112 (e2_orG 231 83 11 4 2147483648 2147483668 as_b111 Eb_b111 f_b111 rs_b111 (e2_orG 231 83 11 4 2147483648 2147483668 as_b110 Eb_b110 f_b110 rs_b110 (e2_orG 231 83 11 4 2147483648 2147483668 as_b109 Eb_b109 f_b109 rs_b109 (e2_orG 231 83 11 4 2147483648 2147483668 as_b108 Eb_b108 f_b108 rs_b108 (e2_orG 231 83 11 4 2147483648 2147483668 as_b107 Eb_b107 f_b107 rs_b107 (e2_orG 231 83 11 4 2147483648 2147483668 as_b106 Eb_b106 f_b106 rs_b106 (e2_orG 231 83 11 4 2147483648 2147483668 as_b105 Eb_b105 f_b105 rs_b105 (e2_orG 231 83 11 4 2147483648 2147483668 as_b104 Eb_b104 f_b104 rs_b104 (e2_orG 231 83 11 4 2147483648 2147483668 as_b103 Eb_b103 f_b103 rs_b103 (e2_orG 231 83 11 4 2147483648 2147483668 as_b102 Eb_b102 f_b102 rs_b102 (e2_orG 231 83 11 4 2147483648 2147483668 as_b101 Eb_b101 f_b101 rs_b101 (e2_orG 231 83 11 4 2147483648 2147483668 as_b100 Eb_b100 f_b100 rs_b100 (e2_orG 231 83 11 4 2147483648 2147483668 as_b99 Eb_b99 f_b99 rs_b99 (e2_orG 231 83 11 4 2147483648 2147483668 as_b98 Eb_b98 f_b98 rs_b98 (e2_orG 231 83 11 4 2147483648 2147483668 as_b97 Eb_b97 f_b97 rs_b97 (e2_orG 231 83 11 4 2147483648 2147483668 as_b96 Eb_b96 f_b96 rs_b96 (e2_orG 231 83 11 4 2147483648 2147483668 as_b95 Eb_b95 f_b95 rs_b95 (e2_orG 231 83 11 4 2147483648 2147483668 as_b94 Eb_b94 f_b94 rs_b94 (e2_cal S_b118 I_b118 4000 1))))))))))))))))))))) (e2_fin rs_b118) e2x_230 (e2_bpL cl_b118_e) (e2_cutA cl_b118_e) 4000 (e2_seek e2x_230 0) (e2_al 5 as_b118) [] E_b118 f_b118 = true := by decide +kernel
noncomputable def cl_b118_26 : List (Nat × e2_S) := [(2, e2_cutL (al_b118_26.set 2 (13, 12, 2147483657)) 4 (E_b118_26.take 4) h_b118_26),
  (49, e2_cutL (al_b118_27.set 2 (11, 2147483647, 2147483667)) 4 (E_b118_27.take 4) h_b118_27)]
set_option maxRecDepth 1000000 in
theorem ck_b118_26 : e2_runM (e2_orG 231 83 11 4 2147483648 2147483668 as_b113 Eb_b113 f_b113 rs_b113 (e2_orG 231 83 11 4 2147483648 2147483668 as_b112 Eb_b112 f_b112 rs_b112 (e2_orG 231 83 11 4 2147483648 2147483668 as_b111 Eb_b111 f_b111 rs_b111 (e2_orG 231 83 11 4 2147483648 2147483668 as_b110 Eb_b110 f_b110 rs_b110 (e2_orG 231 83 11 4 2147483648 2147483668 as_b109 Eb_b109 f_b109 rs_b109 (e2_orG 231 83 11 4 2147483648 2147483668 as_b108 Eb_b108 f_b108 rs_b108 (e2_orG 231 83 11 4 2147483648 2147483668 as_b107 Eb_b107 f_b107 rs_b107 (e2_orG 231 83 11 4 2147483648 2147483668 as_b106 Eb_b106 f_b106 rs_b106 (e2_orG 231 83 11 4 2147483648 2147483668 as_b105 Eb_b105 f_b105 rs_b105 (e2_orG 231 83 11 4 2147483648 2147483668 as_b104 Eb_b104 f_b104 rs_b104 (e2_orG 231 83 11 4 2147483648 2147483668 as_b103 Eb_b103 f_b103 rs_b103 (e2_orG 231 83 11 4 2147483648 2147483668 as_b102 Eb_b102 f_b102 rs_b102 (e2_orG 231 83 11 4 2147483648 2147483668 as_b101 Eb_b101 f_b101 rs_b101 (e2_orG 231 83 11 4 2147483648 2147483668 as_b100 Eb_b100 f_b100 rs_b100 (e2_orG 231 83 11 4 2147483648 2147483668 as_b99 Eb_b99 f_b99 rs_b99 (e2_orG 231 83 11 4 2147483648 2147483668 as_b98 Eb_b98 f_b98 rs_b98 (e2_orG 231 83 11 4 2147483648 2147483668 as_b97 Eb_b97 f_b97 rs_b97 (e2_orG 231 83 11 4 2147483648 2147483668 as_b96 Eb_b96 f_b96 rs_b96 (e2_orG 231 83 11 4 2147483648 2147483668 as_b95 Eb_b95 f_b95 rs_b95 (e2_orG 231 83 11 4 2147483648 2147483668 as_b94 Eb_b94 f_b94 rs_b94 (e2_cal S_b118 I_b118 4000 1))))))))))))))))))))) (e2_fin rs_b118) e2x_230 (e2_bpL cl_b118_26) (e2_cutA cl_b118_26) 4000 (e2_seek e2x_230 2) al_b118_26 [] E_b118_26 h_b118_26 = true := by decide +kernel
set_option maxRecDepth 1000000 in
theorem ci_b118_26 : e2_idl 4 (al_b118_26.set 2 (9, 0, 0)) = true := by decide +kernel
set_option maxRecDepth 1000000 in
theorem cj_b118_26 : e2_idh 4 8 h_b118_26 = true := by decide +kernel
noncomputable def cl_b118_27 : List (Nat × e2_S) := [(120, e2_cutS cu_b118_120),
  (55, e2_cutL (al_b118_28.set 3 (11, 2147483648, 2147483657)) 5 (E_b118_28.take 5) h_b118_28)]
set_option maxRecDepth 1000000 in
theorem ck_b118_27 : e2_runM (e2_orG 231 83 11 4 2147483648 2147483668 as_b113 Eb_b113 f_b113 rs_b113 (e2_orG 231 83 11 4 2147483648 2147483668 as_b112 Eb_b112 f_b112 rs_b112 (e2_orG 231 83 11 4 2147483648 2147483668 as_b111 Eb_b111 f_b111 rs_b111 (e2_orG 231 83 11 4 2147483648 2147483668 as_b110 Eb_b110 f_b110 rs_b110 (e2_orG 231 83 11 4 2147483648 2147483668 as_b109 Eb_b109 f_b109 rs_b109 (e2_orG 231 83 11 4 2147483648 2147483668 as_b108 Eb_b108 f_b108 rs_b108 (e2_orG 231 83 11 4 2147483648 2147483668 as_b107 Eb_b107 f_b107 rs_b107 (e2_orG 231 83 11 4 2147483648 2147483668 as_b106 Eb_b106 f_b106 rs_b106 (e2_orG 231 83 11 4 2147483648 2147483668 as_b105 Eb_b105 f_b105 rs_b105 (e2_orG 231 83 11 4 2147483648 2147483668 as_b104 Eb_b104 f_b104 rs_b104 (e2_orG 231 83 11 4 2147483648 2147483668 as_b103 Eb_b103 f_b103 rs_b103 (e2_orG 231 83 11 4 2147483648 2147483668 as_b102 Eb_b102 f_b102 rs_b102 (e2_orG 231 83 11 4 2147483648 2147483668 as_b101 Eb_b101 f_b101 rs_b101 (e2_orG 231 83 11 4 2147483648 2147483668 as_b100 Eb_b100 f_b100 rs_b100 (e2_orG 231 83 11 4 2147483648 2147483668 as_b99 Eb_b99 f_b99 rs_b99 (e2_orG 231 83 11 4 2147483648 2147483668 as_b98 Eb_b98 f_b98 rs_b98 (e2_orG 231 83 11 4 2147483648 2147483668 as_b97 Eb_b97 f_b97 rs_b97 (e2_orG 231 83 11 4 2147483648 2147483668 as_b96 Eb_b96 f_b96 rs_b96 (e2_orG 231 83 11 4 2147483648 2147483668 as_b95 Eb_b95 f_b95 rs_b95 (e2_orG 231 83 11 4 2147483648 2147483668 as_b94 Eb_b94 f_b94 rs_b94 (e2_cal S_b118 I_b118 4000 1))))))))))))))))))))) (e2_fin rs_b118) e2x_230 (e2_bpL cl_b118_27) (e2_cutA cl_b118_27) 4000 (e2_seek e2x_230 49) al_b118_27 [] E_b118_27 h_b118_27 = true := by decide +kernel
set_option maxRecDepth 1000000 in
theorem ci_b118_27 : e2_idl 4 (al_b118_27.set 2 (9, 0, 0)) = true := by decide +kernel
set_option maxRecDepth 1000000 in
theorem cj_b118_27 : e2_idh 4 8 h_b118_27 = true := by decide +kernel
noncomputable def cl_b118_28 : List (Nat × e2_S) := [(49, e2_cutL (al_b118_27.set 2 (12, 12, 2147483647)) 4 (E_b118_27.take 4) h_b118_27),
  (55, e2_cutL (al_b118_28.set 3 (13, 13, 2147483657)) 5 (E_b118_28.take 5) h_b118_28)]
set_option maxRecDepth 1000000 in
theorem ck_b118_28 : e2_runM (e2_orG 231 83 11 4 2147483648 2147483668 as_b113 Eb_b113 f_b113 rs_b113 (e2_orG 231 83 11 4 2147483648 2147483668 as_b112 Eb_b112 f_b112 rs_b112 (e2_orG 231 83 11 4 2147483648 2147483668 as_b111 Eb_b111 f_b111 rs_b111 (e2_orG 231 83 11 4 2147483648 2147483668 as_b110 Eb_b110 f_b110 rs_b110 (e2_orG 231 83 11 4 2147483648 2147483668 as_b109 Eb_b109 f_b109 rs_b109 (e2_orG 231 83 11 4 2147483648 2147483668 as_b108 Eb_b108 f_b108 rs_b108 (e2_orG 231 83 11 4 2147483648 2147483668 as_b107 Eb_b107 f_b107 rs_b107 (e2_orG 231 83 11 4 2147483648 2147483668 as_b106 Eb_b106 f_b106 rs_b106 (e2_orG 231 83 11 4 2147483648 2147483668 as_b105 Eb_b105 f_b105 rs_b105 (e2_orG 231 83 11 4 2147483648 2147483668 as_b104 Eb_b104 f_b104 rs_b104 (e2_orG 231 83 11 4 2147483648 2147483668 as_b103 Eb_b103 f_b103 rs_b103 (e2_orG 231 83 11 4 2147483648 2147483668 as_b102 Eb_b102 f_b102 rs_b102 (e2_orG 231 83 11 4 2147483648 2147483668 as_b101 Eb_b101 f_b101 rs_b101 (e2_orG 231 83 11 4 2147483648 2147483668 as_b100 Eb_b100 f_b100 rs_b100 (e2_orG 231 83 11 4 2147483648 2147483668 as_b99 Eb_b99 f_b99 rs_b99 (e2_orG 231 83 11 4 2147483648 2147483668 as_b98 Eb_b98 f_b98 rs_b98 (e2_orG 231 83 11 4 2147483648 2147483668 as_b97 Eb_b97 f_b97 rs_b97 (e2_orG 231 83 11 4 2147483648 2147483668 as_b96 Eb_b96 f_b96 rs_b96 (e2_orG 231 83 11 4 2147483648 2147483668 as_b95 Eb_b95 f_b95 rs_b95 (e2_orG 231 83 11 4 2147483648 2147483668 as_b94 Eb_b94 f_b94 rs_b94 (e2_cal S_b118 I_b118 4000 1))))))))))))))))))))) (e2_fin rs_b118) e2x_230 (e2_bpL cl_b118_28) (e2_cutA cl_b118_28) 4000 (e2_seek e2x_230 55) al_b118_28 [] E_b118_28 h_b118_28 = true := by decide +kernel
set_option maxRecDepth 1000000 in
theorem ci_b118_28 : e2_idl 5 (al_b118_28.set 3 (9, 0, 0)) = true := by decide +kernel
set_option maxRecDepth 1000000 in
theorem cj_b118_28 : e2_idh 5 8 h_b118_28 = true := by decide +kernel
set_option maxRecDepth 1000000 in
theorem ck_b118_u120 : e2_cutsB (e2_orG 231 83 11 4 2147483648 2147483668 as_b113 Eb_b113 f_b113 rs_b113 (e2_orG 231 83 11 4 2147483648 2147483668 as_b112 Eb_b112 f_b112 rs_b112 (e2_orG 231 83 11 4 2147483648 2147483668 as_b111 Eb_b111 f_b111 rs_b111 (e2_orG 231 83 11 4 2147483648 2147483668 as_b110 Eb_b110 f_b110 rs_b110 (e2_orG 231 83 11 4 2147483648 2147483668 as_b109 Eb_b109 f_b109 rs_b109 (e2_orG 231 83 11 4 2147483648 2147483668 as_b108 Eb_b108 f_b108 rs_b108 (e2_orG 231 83 11 4 2147483648 2147483668 as_b107 Eb_b107 f_b107 rs_b107 (e2_orG 231 83 11 4 2147483648 2147483668 as_b106 Eb_b106 f_b106 rs_b106 (e2_orG 231 83 11 4 2147483648 2147483668 as_b105 Eb_b105 f_b105 rs_b105 (e2_orG 231 83 11 4 2147483648 2147483668 as_b104 Eb_b104 f_b104 rs_b104 (e2_orG 231 83 11 4 2147483648 2147483668 as_b103 Eb_b103 f_b103 rs_b103 (e2_orG 231 83 11 4 2147483648 2147483668 as_b102 Eb_b102 f_b102 rs_b102 (e2_orG 231 83 11 4 2147483648 2147483668 as_b101 Eb_b101 f_b101 rs_b101 (e2_orG 231 83 11 4 2147483648 2147483668 as_b100 Eb_b100 f_b100 rs_b100 (e2_orG 231 83 11 4 2147483648 2147483668 as_b99 Eb_b99 f_b99 rs_b99 (e2_orG 231 83 11 4 2147483648 2147483668 as_b98 Eb_b98 f_b98 rs_b98 (e2_orG 231 83 11 4 2147483648 2147483668 as_b97 Eb_b97 f_b97 rs_b97 (e2_orG 231 83 11 4 2147483648 2147483668 as_b96 Eb_b96 f_b96 rs_b96 (e2_orG 231 83 11 4 2147483648 2147483668 as_b95 Eb_b95 f_b95 rs_b95 (e2_orG 231 83 11 4 2147483648 2147483668 as_b94 Eb_b94 f_b94 rs_b94 (e2_cal S_b118 I_b118 4000 1))))))))))))))))))))) (e2_fin rs_b118) e2x_230 120 4000 cu_b118_120 = true := by decide +kernel
set_option maxRecDepth 1000000 in
theorem cs_b118 (hen : en_ok) (l : Launch) : e2_smOk l 5 s_b118 := by
  refine e2_conC (H := 4) (C := evd_230) (call := (e2_orG 231 83 11 4 2147483648 2147483668 as_b113 Eb_b113 f_b113 rs_b113 (e2_orG 231 83 11 4 2147483648 2147483668 as_b112 Eb_b112 f_b112 rs_b112 (e2_orG 231 83 11 4 2147483648 2147483668 as_b111 Eb_b111 f_b111 rs_b111 (e2_orG 231 83 11 4 2147483648 2147483668 as_b110 Eb_b110 f_b110 rs_b110 (e2_orG 231 83 11 4 2147483648 2147483668 as_b109 Eb_b109 f_b109 rs_b109 (e2_orG 231 83 11 4 2147483648 2147483668 as_b108 Eb_b108 f_b108 rs_b108 (e2_orG 231 83 11 4 2147483648 2147483668 as_b107 Eb_b107 f_b107 rs_b107 (e2_orG 231 83 11 4 2147483648 2147483668 as_b106 Eb_b106 f_b106 rs_b106 (e2_orG 231 83 11 4 2147483648 2147483668 as_b105 Eb_b105 f_b105 rs_b105 (e2_orG 231 83 11 4 2147483648 2147483668 as_b104 Eb_b104 f_b104 rs_b104 (e2_orG 231 83 11 4 2147483648 2147483668 as_b103 Eb_b103 f_b103 rs_b103 (e2_orG 231 83 11 4 2147483648 2147483668 as_b102 Eb_b102 f_b102 rs_b102 (e2_orG 231 83 11 4 2147483648 2147483668 as_b101 Eb_b101 f_b101 rs_b101 (e2_orG 231 83 11 4 2147483648 2147483668 as_b100 Eb_b100 f_b100 rs_b100 (e2_orG 231 83 11 4 2147483648 2147483668 as_b99 Eb_b99 f_b99 rs_b99 (e2_orG 231 83 11 4 2147483648 2147483668 as_b98 Eb_b98 f_b98 rs_b98 (e2_orG 231 83 11 4 2147483648 2147483668 as_b97 Eb_b97 f_b97 rs_b97 (e2_orG 231 83 11 4 2147483648 2147483668 as_b96 Eb_b96 f_b96 rs_b96 (e2_orG 231 83 11 4 2147483648 2147483668 as_b95 Eb_b95 f_b95 rs_b95 (e2_orG 231 83 11 4 2147483648 2147483668 as_b94 Eb_b94 f_b94 rs_b94 (e2_cal S_b118 I_b118 4000 1)))))))))))))))))))))) ei_230 (fun d hd => (e2_orG_ok (k0 := 231) (a := 83) (j := 11) (n := 4) (lo := 2147483648) (hi := 2147483668) (as0 := as_b113) (Eb := Eb_b113) (f := f_b113) (res := rs_b113) (e2_orG_ok (k0 := 231) (a := 83) (j := 11) (n := 4) (lo := 2147483648) (hi := 2147483668) (as0 := as_b112) (Eb := Eb_b112) (f := f_b112) (res := rs_b112) (e2_orG_ok (k0 := 231) (a := 83) (j := 11) (n := 4) (lo := 2147483648) (hi := 2147483668) (as0 := as_b111) (Eb := Eb_b111) (f := f_b111) (res := rs_b111) (e2_orG_ok (k0 := 231) (a := 83) (j := 11) (n := 4) (lo := 2147483648) (hi := 2147483668) (as0 := as_b110) (Eb := Eb_b110) (f := f_b110) (res := rs_b110) (e2_orG_ok (k0 := 231) (a := 83) (j := 11) (n := 4) (lo := 2147483648) (hi := 2147483668) (as0 := as_b109) (Eb := Eb_b109) (f := f_b109) (res := rs_b109) (e2_orG_ok (k0 := 231) (a := 83) (j := 11) (n := 4) (lo := 2147483648) (hi := 2147483668) (as0 := as_b108) (Eb := Eb_b108) (f := f_b108) (res := rs_b108) (e2_orG_ok (k0 := 231) (a := 83) (j := 11) (n := 4) (lo := 2147483648) (hi := 2147483668) (as0 := as_b107) (Eb := Eb_b107) (f := f_b107) (res := rs_b107) (e2_orG_ok (k0 := 231) (a := 83) (j := 11) (n := 4) (lo := 2147483648) (hi := 2147483668) (as0 := as_b106) (Eb := Eb_b106) (f := f_b106) (res := rs_b106) (e2_orG_ok (k0 := 231) (a := 83) (j := 11) (n := 4) (lo := 2147483648) (hi := 2147483668) (as0 := as_b105) (Eb := Eb_b105) (f := f_b105) (res := rs_b105) (e2_orG_ok (k0 := 231) (a := 83) (j := 11) (n := 4) (lo := 2147483648) (hi := 2147483668) (as0 := as_b104) (Eb := Eb_b104) (f := f_b104) (res := rs_b104) (e2_orG_ok (k0 := 231) (a := 83) (j := 11) (n := 4) (lo := 2147483648) (hi := 2147483668) (as0 := as_b103) (Eb := Eb_b103) (f := f_b103) (res := rs_b103) (e2_orG_ok (k0 := 231) (a := 83) (j := 11) (n := 4) (lo := 2147483648) (hi := 2147483668) (as0 := as_b102) (Eb := Eb_b102) (f := f_b102) (res := rs_b102) (e2_orG_ok (k0 := 231) (a := 83) (j := 11) (n := 4) (lo := 2147483648) (hi := 2147483668) (as0 := as_b101) (Eb := Eb_b101) (f := f_b101) (res := rs_b101) (e2_orG_ok (k0 := 231) (a := 83) (j := 11) (n := 4) (lo := 2147483648) (hi := 2147483668) (as0 := as_b100) (Eb := Eb_b100) (f := f_b100) (res := rs_b100) (e2_orG_ok (k0 := 231) (a := 83) (j := 11) (n := 4) (lo := 2147483648) (hi := 2147483668) (as0 := as_b99) (Eb := Eb_b99) (f := f_b99) (res := rs_b99) (e2_orG_ok (k0 := 231) (a := 83) (j := 11) (n := 4) (lo := 2147483648) (hi := 2147483668) (as0 := as_b98) (Eb := Eb_b98) (f := f_b98) (res := rs_b98) (e2_orG_ok (k0 := 231) (a := 83) (j := 11) (n := 4) (lo := 2147483648) (hi := 2147483668) (as0 := as_b97) (Eb := Eb_b97) (f := f_b97) (res := rs_b97) (e2_orG_ok (k0 := 231) (a := 83) (j := 11) (n := 4) (lo := 2147483648) (hi := 2147483668) (as0 := as_b96) (Eb := Eb_b96) (f := f_b96) (res := rs_b96) (e2_orG_ok (k0 := 231) (a := 83) (j := 11) (n := 4) (lo := 2147483648) (hi := 2147483668) (as0 := as_b95) (Eb := Eb_b95) (f := f_b95) (res := rs_b95) (e2_orG_ok (k0 := 231) (a := 83) (j := 11) (n := 4) (lo := 2147483648) (hi := 2147483668) (as0 := as_b94) (Eb := Eb_b94) (f := f_b94) (res := rs_b94) (e2_cal_ok hen (e2_fa (cs_b44 hen l) (e2_fa (cs_b45 hen l) (e2_fa (cs_b46 hen l) (e2_fa (cs_b47 hen l) (e2_fa (cs_b48 hen l) (e2_fa (cs_b49 hen l) (e2_fa (cs_b50 hen l) (e2_fa (cs_b51 hen l) (e2_fa (cs_b52 hen l) (e2_fa (cs_b53 hen l) (e2_fa (cs_b54 hen l) (e2_fa (cs_b55 hen l) (e2_fa (cs_b56 hen l) (e2_fa (cs_b57 hen l) (e2_fa (cs_b58 hen l) (e2_fa (cs_b59 hen l) (e2_fa (cs_b60 hen l) (e2_fa (cs_b61 hen l) (e2_fa (cs_b62 hen l) (e2_fa (cs_b63 hen l) e2_fz)))))))))))))))))))) (e2_fa ein_216 (e2_fa ein_217 (e2_fa ein_227 e2_fz))) 1 d (by omega)) rfl (by decide +kernel) (fun M hM => (cs_b94 hen l).2 M hM d (by omega)) (e2_okGB_ok cog_b94)) rfl (by decide +kernel) (fun M hM => (cs_b95 hen l).2 M hM d (by omega)) (e2_okGB_ok cog_b95)) rfl (by decide +kernel) (fun M hM => (cs_b96 hen l).2 M hM d (by omega)) (e2_okGB_ok cog_b96)) rfl (by decide +kernel) (fun M hM => (cs_b97 hen l).2 M hM d (by omega)) (e2_okGB_ok cog_b97)) rfl (by decide +kernel) (fun M hM => (cs_b98 hen l).2 M hM d (by omega)) (e2_okGB_ok cog_b98)) rfl (by decide +kernel) (fun M hM => (cs_b99 hen l).2 M hM d (by omega)) (e2_okGB_ok cog_b99)) rfl (by decide +kernel) (fun M hM => (cs_b100 hen l).2 M hM d (by omega)) (e2_okGB_ok cog_b100)) rfl (by decide +kernel) (fun M hM => (cs_b101 hen l).2 M hM d (by omega)) (e2_okGB_ok cog_b101)) rfl (by decide +kernel) (fun M hM => (cs_b102 hen l).2 M hM d (by omega)) (e2_okGB_ok cog_b102)) rfl (by decide +kernel) (fun M hM => (cs_b103 hen l).2 M hM d (by omega)) (e2_okGB_ok cog_b103)) rfl (by decide +kernel) (fun M hM => (cs_b104 hen l).2 M hM d (by omega)) (e2_okGB_ok cog_b104)) rfl (by decide +kernel) (fun M hM => (cs_b105 hen l).2 M hM d (by omega)) (e2_okGB_ok cog_b105)) rfl (by decide +kernel) (fun M hM => (cs_b106 hen l).2 M hM d (by omega)) (e2_okGB_ok cog_b106)) rfl (by decide +kernel) (fun M hM => (cs_b107 hen l).2 M hM d (by omega)) (e2_okGB_ok cog_b107)) rfl (by decide +kernel) (fun M hM => (cs_b108 hen l).2 M hM d (by omega)) (e2_okGB_ok cog_b108)) rfl (by decide +kernel) (fun M hM => (cs_b109 hen l).2 M hM d (by omega)) (e2_okGB_ok cog_b109)) rfl (by decide +kernel) (fun M hM => (cs_b110 hen l).2 M hM d (by omega)) (e2_okGB_ok cog_b110)) rfl (by decide +kernel) (fun M hM => (cs_b111 hen l).2 M hM d (by omega)) (e2_okGB_ok cog_b111)) rfl (by decide +kernel) (fun M hM => (cs_b112 hen l).2 M hM d (by omega)) (e2_okGB_ok cog_b112)) rfl (by decide +kernel) (fun M hM => (cs_b113 hen l).2 M hM d (by omega)) (e2_okGB_ok cog_b113))) (by decide) co_b118 fun M d _ hC hcall p e R s m args below meth c Q D cA A ads r0 ha hl0 => ?_
  have EN_120 := e2_cutS_ok (bp := 120) (cuts := cu_b118_120) (e2_cuts_len hl0 (by decide +kernel)) (e2_cuts_ok hen ha hcall (hC [76, 192, 195]) (X := e2x_230) ex2_230 (e2_cuts_len hl0 (by decide +kernel)) ck_b118_u120)
  have L_27 : e2_gdM M p l e R s m args below meth c Q D cA A ads r0 49 al_b118_27 [] E_b118_27 h_b118_27 := by
    refine e2_indD (u := 4) (j := 2) (lo := 2147483647) (hi := 2147483667) hl0 (by decide) rfl rfl rfl ci_b118_27 cj_b118_27 ?_
    intro r_27 k_27 hk_27 hp_27 hs_27 hn_27
    have hl_27 : r_27.length ≤ 5 := hs_27.len rfl
    have ha_27 := ha.ext hp_27
    have L_28 : e2_gdM M p l e R s m args below meth c Q D cA A ads r_27 55 al_b118_28 [] E_b118_28 h_b118_28 := by
      refine e2_indL (u := 5) (j := 3) (lo := 2147483648) (hi := 2147483657) (b := 5) (dd := 0) hl_27 (by decide) rfl rfl (Or.inr ⟨rfl, rfl⟩) rfl ci_b118_28 cj_b118_28 ?_
      intro r_28 k_28 hk_28 hp_28 hs_28 hn_28
      have hl_28 : r_28.length ≤ 6 := hs_28.len rfl
      have ha_28 := ha_27.ext hp_28
      exact e2_fromM hen ha_28 hcall (e2_cutA_ok (e2_fa (fun al st E h hc => (hn_27 al st E h hc).ext hp_28) (e2_fa (fun al st E h hc => hn_28 al st E h hc) e2_fz))) (hC [76, 192, 195]) (X := e2x_230) ex2_230 55 ck_b118_28
    have EN_28 := e2_entL (u := 5) (j := 3) (lo := 2147483648) (hi := 2147483657) hl_27 rfl rfl rfl ci_b118_28 cj_b118_28 L_28
    exact e2_fromM hen ha_27 hcall (e2_cutA_ok (e2_fa (fun al st E h hc => (EN_120 al st E h hc).ext hp_27) (e2_fa (fun al st E h hc => EN_28 al st E h hc) e2_fz))) (hC [76, 192, 195]) (X := e2x_230) ex2_230 49 ck_b118_27
  have EN_27 := e2_entL (u := 4) (j := 2) (lo := 2147483647) (hi := 2147483667) hl0 rfl rfl rfl ci_b118_27 cj_b118_27 L_27
  have L_26 : e2_gdM M p l e R s m args below meth c Q D cA A ads r0 2 al_b118_26 [] E_b118_26 h_b118_26 := by
    refine e2_indL (u := 4) (j := 2) (lo := 2147483648) (hi := 2147483657) (b := 4) (dd := 0) hl0 (by decide) rfl rfl (Or.inr ⟨rfl, rfl⟩) rfl ci_b118_26 cj_b118_26 ?_
    intro r_26 k_26 hk_26 hp_26 hs_26 hn_26
    have hl_26 : r_26.length ≤ 5 := hs_26.len rfl
    have ha_26 := ha.ext hp_26
    exact e2_fromM hen ha_26 hcall (e2_cutA_ok (e2_fa (fun al st E h hc => hn_26 al st E h hc) (e2_fa (fun al st E h hc => (EN_27 al st E h hc).ext hp_26) e2_fz))) (hC [76, 192, 195]) (X := e2x_230) ex2_230 2 ck_b118_26
  have EN_26 := e2_entL (u := 4) (j := 2) (lo := 2147483648) (hi := 2147483657) hl0 rfl rfl rfl ci_b118_26 cj_b118_26 L_26
  exact e2_from hen ha hcall (e2_cutA_ok (e2_fa (fun al st E h hc => EN_26 al st E h hc) e2_fz)) (hC [76, 192, 195]) (X := e2x_230) ex2_230 0 ck_b118_e
/-! b119 X10_read -/
def as_b119 : List ev_V := [(2, 83, 0), (11, 0, 4294967295)]
def E_b119 : e2_E := [(2147483648, 2147583648, 0, 0), (2147483653, 2147483653, 1, 0), (2147483648, 2147483688, 2, 0), (2147483648, 2147483688, 3, 0)]
def bn1337 : e2_Q7 := (bn824, bn457)
def bn1338 : e2_Q8 := (bn477, bn1337)
noncomputable def f_b119 : ev_H := (bn1338 : e2_Q8)
noncomputable def q_b119_0 : ev_H := (bn1338 : e2_Q8)
noncomputable def rs_b119 : e2_Rs := [((11, 2147483647, 2147483668), q_b119_0)]
noncomputable def s_b119 : e2_Sm := (230, as_b119, E_b119, f_b119, rs_b119)
noncomputable def S_b119 : List e2_Sm := [s_b44, s_b45, s_b46, s_b47, s_b48, s_b49, s_b50, s_b51, s_b52, s_b53, s_b54, s_b55, s_b56, s_b57, s_b58, s_b59, s_b60, s_b61, s_b62, s_b63]
noncomputable def I_b119 : List e2_In := [(216, 1, e2x_216), (217, 1, e2x_217), (227, 2, e2x_227)]
set_option maxRecDepth 1000000 in
theorem co_b119 : e2_okSB E_b119.length as_b119 f_b119 rs_b119 = true := by decide +kernel
def al_b119_26 : List ev_V := [(2, 83, 0), (11, 0, 4294967295), (1, 4, 4294967296), (9, 0, 0), (9, 0, 0)]
def E_b119_26 : e2_E := [(2147483648, 2147583648, 0, 0), (2147483653, 2147483653, 1, 0), (2147483648, 2147483688, 2, 0), (2147483648, 2147483688, 3, 0), (2147483648, 2147483657, 4, 0)]
noncomputable def h_b119_26 : ev_H := (bn1338 : e2_Q8)
def al_b119_27 : List ev_V := [(2, 83, 0), (11, 0, 4294967295), (1, 4, 4294967296), (9, 0, 0), (9, 0, 0)]
def E_b119_27 : e2_E := [(2147483648, 2147583648, 0, 0), (2147483653, 2147483653, 1, 0), (2147483648, 2147483688, 2, 0), (2147483648, 2147483688, 3, 0), (2147483647, 2147483667, 4, 0)]
noncomputable def h_b119_27 : ev_H := (bn1338 : e2_Q8)
def al_b119_28 : List ev_V := [(2, 83, 0), (11, 0, 4294967295), (1, 4, 4294967296), (1, 5, 4294967296), (9, 0, 0)]
def E_b119_28 : e2_E := [(2147483648, 2147583648, 0, 0), (2147483653, 2147483653, 1, 0), (2147483648, 2147483688, 2, 0), (2147483648, 2147483688, 3, 0), (2147483648, 2147483667, 4, 0), (2147483648, 2147483657, 5, 0)]
noncomputable def h_b119_28 : ev_H := (bn1338 : e2_Q8)
def bn1339 : e2_Q7 := (bn824, bn1038)
def bn1340 : e2_Q8 := (bn477, bn1339)
noncomputable def h_b119_0 : ev_H := (bn1340 : e2_Q8)
def bn1341 : e2_Q7 := (bn824, bn1050)
def bn1342 : e2_Q8 := (bn477, bn1341)
noncomputable def h_b119_1 : ev_H := (bn1342 : e2_Q8)
def bn1343 : e2_Q7 := (bn824, bn1058)
def bn1344 : e2_Q8 := (bn477, bn1343)
noncomputable def h_b119_2 : ev_H := (bn1344 : e2_Q8)
def bn1345 : e2_Q7 := (bn824, bn1066)
def bn1346 : e2_Q8 := (bn477, bn1345)
noncomputable def h_b119_3 : ev_H := (bn1346 : e2_Q8)
def bn1347 : e2_Q7 := (bn824, bn1074)
def bn1348 : e2_Q8 := (bn477, bn1347)
noncomputable def h_b119_4 : ev_H := (bn1348 : e2_Q8)
def bn1349 : e2_Q7 := (bn824, bn1082)
def bn1350 : e2_Q8 := (bn477, bn1349)
noncomputable def h_b119_5 : ev_H := (bn1350 : e2_Q8)
def bn1351 : e2_Q7 := (bn824, bn1090)
def bn1352 : e2_Q8 := (bn477, bn1351)
noncomputable def h_b119_6 : ev_H := (bn1352 : e2_Q8)
def bn1353 : e2_Q7 := (bn824, bn1098)
def bn1354 : e2_Q8 := (bn477, bn1353)
noncomputable def h_b119_7 : ev_H := (bn1354 : e2_Q8)
def bn1355 : e2_Q7 := (bn824, bn1106)
def bn1356 : e2_Q8 := (bn477, bn1355)
noncomputable def h_b119_8 : ev_H := (bn1356 : e2_Q8)
def bn1357 : e2_Q7 := (bn824, bn1114)
def bn1358 : e2_Q8 := (bn477, bn1357)
noncomputable def h_b119_9 : ev_H := (bn1358 : e2_Q8)
def bn1359 : e2_Q7 := (bn824, bn1122)
def bn1360 : e2_Q8 := (bn477, bn1359)
noncomputable def h_b119_10 : ev_H := (bn1360 : e2_Q8)
def bn1361 : e2_Q7 := (bn824, bn1130)
def bn1362 : e2_Q8 := (bn477, bn1361)
noncomputable def h_b119_11 : ev_H := (bn1362 : e2_Q8)
def bn1363 : e2_Q7 := (bn824, bn1138)
def bn1364 : e2_Q8 := (bn477, bn1363)
noncomputable def h_b119_12 : ev_H := (bn1364 : e2_Q8)
def bn1365 : e2_Q7 := (bn824, bn1146)
def bn1366 : e2_Q8 := (bn477, bn1365)
noncomputable def h_b119_13 : ev_H := (bn1366 : e2_Q8)
def bn1367 : e2_Q7 := (bn824, bn1154)
def bn1368 : e2_Q8 := (bn477, bn1367)
noncomputable def h_b119_14 : ev_H := (bn1368 : e2_Q8)
def bn1369 : e2_Q7 := (bn824, bn1162)
def bn1370 : e2_Q8 := (bn477, bn1369)
noncomputable def h_b119_15 : ev_H := (bn1370 : e2_Q8)
def bn1371 : e2_Q7 := (bn824, bn1170)
def bn1372 : e2_Q8 := (bn477, bn1371)
noncomputable def h_b119_16 : ev_H := (bn1372 : e2_Q8)
def bn1373 : e2_Q7 := (bn824, bn1178)
def bn1374 : e2_Q8 := (bn477, bn1373)
noncomputable def h_b119_17 : ev_H := (bn1374 : e2_Q8)
def bn1375 : e2_Q7 := (bn824, bn1186)
def bn1376 : e2_Q8 := (bn477, bn1375)
noncomputable def h_b119_18 : ev_H := (bn1376 : e2_Q8)
def bn1377 : e2_Q7 := (bn824, bn1194)
def bn1378 : e2_Q8 := (bn477, bn1377)
noncomputable def h_b119_19 : ev_H := (bn1378 : e2_Q8)
noncomputable def h_b119_20 : ev_H := (bn1338 : e2_Q8)
def bn1379 : e2_Q7 := (bn824, bn1202)
def bn1380 : e2_Q8 := (bn477, bn1379)
noncomputable def h_b119_21 : ev_H := (bn1380 : e2_Q8)
noncomputable def h_b119_22 : ev_H := (bn1380 : e2_Q8)
noncomputable def h_b119_23 : ev_H := (bn1380 : e2_Q8)
noncomputable def h_b119_24 : ev_H := (bn1380 : e2_Q8)
noncomputable def h_b119_25 : ev_H := (bn1380 : e2_Q8)
noncomputable def cu_b119_120 : List e2_Cu := [([(2, 83, 0), (11, 0, 4294967295), (0, 0, 0), (0, 8, 0), (9, 0, 0)], [(2147483648, 2147583648, 0, 0), (2147483653, 2147483653, 1, 0), (2147483648, 2147483688, 2, 0), (2147483648, 2147483688, 3, 0)], h_b119_0),
  ([(2, 83, 0), (11, 0, 4294967295), (0, 1, 0), (11, 2147483648, 2147483656), (11, 2147483647, 2147483652)], [(2147483648, 2147583648, 0, 0), (2147483653, 2147483653, 1, 0), (2147483648, 2147483688, 2, 0), (2147483648, 2147483688, 3, 0)], h_b119_1),
  ([(2, 83, 0), (11, 0, 4294967295), (0, 2, 0), (11, 2147483648, 2147483656), (11, 2147483647, 2147483652)], [(2147483648, 2147583648, 0, 0), (2147483653, 2147483653, 1, 0), (2147483648, 2147483688, 2, 0), (2147483648, 2147483688, 3, 0)], h_b119_2),
  ([(2, 83, 0), (11, 0, 4294967295), (0, 3, 0), (11, 2147483648, 2147483656), (11, 2147483647, 2147483652)], [(2147483648, 2147583648, 0, 0), (2147483653, 2147483653, 1, 0), (2147483648, 2147483688, 2, 0), (2147483648, 2147483688, 3, 0)], h_b119_3),
  ([(2, 83, 0), (11, 0, 4294967295), (0, 4, 0), (11, 2147483648, 2147483656), (11, 2147483647, 2147483652)], [(2147483648, 2147583648, 0, 0), (2147483653, 2147483653, 1, 0), (2147483648, 2147483688, 2, 0), (2147483648, 2147483688, 3, 0)], h_b119_4),
  ([(2, 83, 0), (11, 0, 4294967295), (0, 5, 0), (11, 2147483648, 2147483656), (11, 2147483647, 2147483652)], [(2147483648, 2147583648, 0, 0), (2147483653, 2147483653, 1, 0), (2147483648, 2147483688, 2, 0), (2147483648, 2147483688, 3, 0)], h_b119_5),
  ([(2, 83, 0), (11, 0, 4294967295), (0, 6, 0), (11, 2147483648, 2147483656), (11, 2147483647, 2147483652)], [(2147483648, 2147583648, 0, 0), (2147483653, 2147483653, 1, 0), (2147483648, 2147483688, 2, 0), (2147483648, 2147483688, 3, 0)], h_b119_6),
  ([(2, 83, 0), (11, 0, 4294967295), (0, 7, 0), (11, 2147483648, 2147483656), (11, 2147483647, 2147483652)], [(2147483648, 2147583648, 0, 0), (2147483653, 2147483653, 1, 0), (2147483648, 2147483688, 2, 0), (2147483648, 2147483688, 3, 0)], h_b119_7),
  ([(2, 83, 0), (11, 0, 4294967295), (0, 8, 0), (11, 2147483648, 2147483656), (11, 2147483647, 2147483652)], [(2147483648, 2147583648, 0, 0), (2147483653, 2147483653, 1, 0), (2147483648, 2147483688, 2, 0), (2147483648, 2147483688, 3, 0)], h_b119_8),
  ([(2, 83, 0), (11, 0, 4294967295), (0, 9, 0), (11, 2147483648, 2147483656), (11, 2147483647, 2147483652)], [(2147483648, 2147583648, 0, 0), (2147483653, 2147483653, 1, 0), (2147483648, 2147483688, 2, 0), (2147483648, 2147483688, 3, 0)], h_b119_9),
  ([(2, 83, 0), (11, 0, 4294967295), (0, 10, 0), (11, 2147483648, 2147483656), (11, 2147483647, 2147483652)], [(2147483648, 2147583648, 0, 0), (2147483653, 2147483653, 1, 0), (2147483648, 2147483688, 2, 0), (2147483648, 2147483688, 3, 0)], h_b119_10),
  ([(2, 83, 0), (11, 0, 4294967295), (0, 11, 0), (11, 2147483648, 2147483656), (11, 2147483647, 2147483652)], [(2147483648, 2147583648, 0, 0), (2147483653, 2147483653, 1, 0), (2147483648, 2147483688, 2, 0), (2147483648, 2147483688, 3, 0)], h_b119_11),
  ([(2, 83, 0), (11, 0, 4294967295), (0, 12, 0), (11, 2147483648, 2147483656), (11, 2147483647, 2147483652)], [(2147483648, 2147583648, 0, 0), (2147483653, 2147483653, 1, 0), (2147483648, 2147483688, 2, 0), (2147483648, 2147483688, 3, 0)], h_b119_12),
  ([(2, 83, 0), (11, 0, 4294967295), (0, 13, 0), (11, 2147483648, 2147483656), (11, 2147483647, 2147483652)], [(2147483648, 2147583648, 0, 0), (2147483653, 2147483653, 1, 0), (2147483648, 2147483688, 2, 0), (2147483648, 2147483688, 3, 0)], h_b119_13),
  ([(2, 83, 0), (11, 0, 4294967295), (0, 14, 0), (11, 2147483648, 2147483656), (11, 2147483647, 2147483652)], [(2147483648, 2147583648, 0, 0), (2147483653, 2147483653, 1, 0), (2147483648, 2147483688, 2, 0), (2147483648, 2147483688, 3, 0)], h_b119_14),
  ([(2, 83, 0), (11, 0, 4294967295), (0, 15, 0), (11, 2147483648, 2147483656), (11, 2147483647, 2147483652)], [(2147483648, 2147583648, 0, 0), (2147483653, 2147483653, 1, 0), (2147483648, 2147483688, 2, 0), (2147483648, 2147483688, 3, 0)], h_b119_15),
  ([(2, 83, 0), (11, 0, 4294967295), (0, 16, 0), (11, 2147483648, 2147483656), (11, 2147483647, 2147483652)], [(2147483648, 2147583648, 0, 0), (2147483653, 2147483653, 1, 0), (2147483648, 2147483688, 2, 0), (2147483648, 2147483688, 3, 0)], h_b119_16),
  ([(2, 83, 0), (11, 0, 4294967295), (0, 17, 0), (11, 2147483648, 2147483656), (11, 2147483647, 2147483652)], [(2147483648, 2147583648, 0, 0), (2147483653, 2147483653, 1, 0), (2147483648, 2147483688, 2, 0), (2147483648, 2147483688, 3, 0)], h_b119_17),
  ([(2, 83, 0), (11, 0, 4294967295), (0, 18, 0), (11, 2147483648, 2147483656), (11, 2147483647, 2147483652)], [(2147483648, 2147583648, 0, 0), (2147483653, 2147483653, 1, 0), (2147483648, 2147483688, 2, 0), (2147483648, 2147483688, 3, 0)], h_b119_18),
  ([(2, 83, 0), (11, 0, 4294967295), (0, 19, 0), (11, 2147483648, 2147483656), (11, 2147483647, 2147483652)], [(2147483648, 2147583648, 0, 0), (2147483653, 2147483653, 1, 0), (2147483648, 2147483688, 2, 0), (2147483648, 2147483688, 3, 0)], h_b119_19),
  ([(2, 83, 0), (11, 0, 4294967295), (0, 20, 0), (11, 2147483648, 2147483656), (11, 2147483647, 2147483652)], [(2147483648, 2147583648, 0, 0), (2147483653, 2147483653, 1, 0), (2147483648, 2147483688, 2, 0), (2147483648, 2147483688, 3, 0)], h_b119_20),
  ([(2, 83, 0), (11, 0, 4294967295), (0, 21, 0), (11, 2147483648, 2147483652), (11, 2147483648, 2147483652)], [(2147483648, 2147583648, 0, 0), (2147483653, 2147483653, 1, 0), (2147483648, 2147483688, 2, 0), (2147483648, 2147483688, 3, 0)], h_b119_21),
  ([(2, 83, 0), (11, 0, 4294967295), (0, 22, 0), (11, 2147483648, 2147483652), (11, 2147483648, 2147483652)], [(2147483648, 2147583648, 0, 0), (2147483653, 2147483653, 1, 0), (2147483648, 2147483688, 2, 0), (2147483648, 2147483688, 3, 0)], h_b119_22),
  ([(2, 83, 0), (11, 0, 4294967295), (0, 23, 0), (11, 2147483648, 2147483652), (11, 2147483648, 2147483652)], [(2147483648, 2147583648, 0, 0), (2147483653, 2147483653, 1, 0), (2147483648, 2147483688, 2, 0), (2147483648, 2147483688, 3, 0)], h_b119_23),
  ([(2, 83, 0), (11, 0, 4294967295), (0, 24, 0), (11, 2147483648, 2147483652), (11, 2147483648, 2147483652)], [(2147483648, 2147583648, 0, 0), (2147483653, 2147483653, 1, 0), (2147483648, 2147483688, 2, 0), (2147483648, 2147483688, 3, 0)], h_b119_24),
  ([(2, 83, 0), (11, 0, 4294967295), (0, 25, 0), (11, 2147483648, 2147483652), (11, 2147483648, 2147483652)], [(2147483648, 2147583648, 0, 0), (2147483653, 2147483653, 1, 0), (2147483648, 2147483688, 2, 0), (2147483648, 2147483688, 3, 0)], h_b119_25)]
noncomputable def cl_b119_e : List (Nat × e2_S) := [(2, e2_cutL (al_b119_26.set 2 (11, 2147483648, 2147483657)) 4 (E_b119_26.take 4) h_b119_26)]
set_option maxRecDepth 1000000 in
theorem ck_b119_e : e2_run (e2_orG 231 83 11 4 2147483648 2147483668 as_b113 Eb_b113 f_b113 rs_b113 (e2_orG 231 83 11 4 2147483648 2147483668 as_b112 Eb_b112 f_b112 rs_b112 (e2_orG 231 83 11 4 2147483648 2147483668 as_b111 Eb_b111 f_b111 rs_b111 (e2_orG 231 83 11 4 2147483648 2147483668 as_b110 Eb_b110 f_b110 rs_b110 (e2_orG 231 83 11 4 2147483648 2147483668 as_b109 Eb_b109 f_b109 rs_b109 (e2_orG 231 83 11 4 2147483648 2147483668 as_b108 Eb_b108 f_b108 rs_b108 (e2_orG 231 83 11 4 2147483648 2147483668 as_b107 Eb_b107 f_b107 rs_b107 (e2_orG 231 83 11 4 2147483648 2147483668 as_b106 Eb_b106 f_b106 rs_b106 (e2_orG 231 83 11 4 2147483648 2147483668 as_b105 Eb_b105 f_b105 rs_b105 (e2_orG 231 83 11 4 2147483648 2147483668 as_b104 Eb_b104 f_b104 rs_b104 (e2_orG 231 83 11 4 2147483648 2147483668 as_b103 Eb_b103 f_b103 rs_b103 (e2_orG 231 83 11 4 2147483648 2147483668 as_b102 Eb_b102 f_b102 rs_b102 (e2_orG 231 83 11 4 2147483648 2147483668 as_b101 Eb_b101 f_b101 rs_b101 (e2_orG 231 83 11 4 2147483648 2147483668 as_b100 Eb_b100 f_b100 rs_b100 (e2_orG 231 83 11 4 2147483648 2147483668 as_b99 Eb_b99 f_b99 rs_b99 (e2_orG 231 83 11 4 2147483648 2147483668 as_b98 Eb_b98 f_b98 rs_b98 (e2_orG 231 83 11 4 2147483648 2147483668 as_b97 Eb_b97 f_b97 rs_b97 (e2_orG 231 83 11 4 2147483648 2147483668 as_b96 Eb_b96 f_b96 rs_b96 (e2_orG 231 83 11 4 2147483648 2147483668 as_b95 Eb_b95 f_b95 rs_b95 (e2_orG 231 83 11 4 2147483648 2147483668 as_b94 Eb_b94 f_b94 rs_b94 (e2_cal S_b119 I_b119 4000 1))))))))))))))))))))) (e2_fin rs_b119) e2x_230 (e2_bpL cl_b119_e) (e2_cutA cl_b119_e) 4000 (e2_seek e2x_230 0) (e2_al 5 as_b119) [] E_b119 f_b119 = true := by decide +kernel
noncomputable def cl_b119_26 : List (Nat × e2_S) := [(2, e2_cutL (al_b119_26.set 2 (13, 12, 2147483657)) 4 (E_b119_26.take 4) h_b119_26),
  (49, e2_cutL (al_b119_27.set 2 (11, 2147483647, 2147483667)) 4 (E_b119_27.take 4) h_b119_27)]
set_option maxRecDepth 1000000 in
theorem ck_b119_26 : e2_runM (e2_orG 231 83 11 4 2147483648 2147483668 as_b113 Eb_b113 f_b113 rs_b113 (e2_orG 231 83 11 4 2147483648 2147483668 as_b112 Eb_b112 f_b112 rs_b112 (e2_orG 231 83 11 4 2147483648 2147483668 as_b111 Eb_b111 f_b111 rs_b111 (e2_orG 231 83 11 4 2147483648 2147483668 as_b110 Eb_b110 f_b110 rs_b110 (e2_orG 231 83 11 4 2147483648 2147483668 as_b109 Eb_b109 f_b109 rs_b109 (e2_orG 231 83 11 4 2147483648 2147483668 as_b108 Eb_b108 f_b108 rs_b108 (e2_orG 231 83 11 4 2147483648 2147483668 as_b107 Eb_b107 f_b107 rs_b107 (e2_orG 231 83 11 4 2147483648 2147483668 as_b106 Eb_b106 f_b106 rs_b106 (e2_orG 231 83 11 4 2147483648 2147483668 as_b105 Eb_b105 f_b105 rs_b105 (e2_orG 231 83 11 4 2147483648 2147483668 as_b104 Eb_b104 f_b104 rs_b104 (e2_orG 231 83 11 4 2147483648 2147483668 as_b103 Eb_b103 f_b103 rs_b103 (e2_orG 231 83 11 4 2147483648 2147483668 as_b102 Eb_b102 f_b102 rs_b102 (e2_orG 231 83 11 4 2147483648 2147483668 as_b101 Eb_b101 f_b101 rs_b101 (e2_orG 231 83 11 4 2147483648 2147483668 as_b100 Eb_b100 f_b100 rs_b100 (e2_orG 231 83 11 4 2147483648 2147483668 as_b99 Eb_b99 f_b99 rs_b99 (e2_orG 231 83 11 4 2147483648 2147483668 as_b98 Eb_b98 f_b98 rs_b98 (e2_orG 231 83 11 4 2147483648 2147483668 as_b97 Eb_b97 f_b97 rs_b97 (e2_orG 231 83 11 4 2147483648 2147483668 as_b96 Eb_b96 f_b96 rs_b96 (e2_orG 231 83 11 4 2147483648 2147483668 as_b95 Eb_b95 f_b95 rs_b95 (e2_orG 231 83 11 4 2147483648 2147483668 as_b94 Eb_b94 f_b94 rs_b94 (e2_cal S_b119 I_b119 4000 1))))))))))))))))))))) (e2_fin rs_b119) e2x_230 (e2_bpL cl_b119_26) (e2_cutA cl_b119_26) 4000 (e2_seek e2x_230 2) al_b119_26 [] E_b119_26 h_b119_26 = true := by decide +kernel
set_option maxRecDepth 1000000 in
theorem ci_b119_26 : e2_idl 4 (al_b119_26.set 2 (9, 0, 0)) = true := by decide +kernel
set_option maxRecDepth 1000000 in
theorem cj_b119_26 : e2_idh 4 8 h_b119_26 = true := by decide +kernel
noncomputable def cl_b119_27 : List (Nat × e2_S) := [(120, e2_cutS cu_b119_120),
  (55, e2_cutL (al_b119_28.set 3 (11, 2147483648, 2147483657)) 5 (E_b119_28.take 5) h_b119_28)]
set_option maxRecDepth 1000000 in
theorem ck_b119_27 : e2_runM (e2_orG 231 83 11 4 2147483648 2147483668 as_b113 Eb_b113 f_b113 rs_b113 (e2_orG 231 83 11 4 2147483648 2147483668 as_b112 Eb_b112 f_b112 rs_b112 (e2_orG 231 83 11 4 2147483648 2147483668 as_b111 Eb_b111 f_b111 rs_b111 (e2_orG 231 83 11 4 2147483648 2147483668 as_b110 Eb_b110 f_b110 rs_b110 (e2_orG 231 83 11 4 2147483648 2147483668 as_b109 Eb_b109 f_b109 rs_b109 (e2_orG 231 83 11 4 2147483648 2147483668 as_b108 Eb_b108 f_b108 rs_b108 (e2_orG 231 83 11 4 2147483648 2147483668 as_b107 Eb_b107 f_b107 rs_b107 (e2_orG 231 83 11 4 2147483648 2147483668 as_b106 Eb_b106 f_b106 rs_b106 (e2_orG 231 83 11 4 2147483648 2147483668 as_b105 Eb_b105 f_b105 rs_b105 (e2_orG 231 83 11 4 2147483648 2147483668 as_b104 Eb_b104 f_b104 rs_b104 (e2_orG 231 83 11 4 2147483648 2147483668 as_b103 Eb_b103 f_b103 rs_b103 (e2_orG 231 83 11 4 2147483648 2147483668 as_b102 Eb_b102 f_b102 rs_b102 (e2_orG 231 83 11 4 2147483648 2147483668 as_b101 Eb_b101 f_b101 rs_b101 (e2_orG 231 83 11 4 2147483648 2147483668 as_b100 Eb_b100 f_b100 rs_b100 (e2_orG 231 83 11 4 2147483648 2147483668 as_b99 Eb_b99 f_b99 rs_b99 (e2_orG 231 83 11 4 2147483648 2147483668 as_b98 Eb_b98 f_b98 rs_b98 (e2_orG 231 83 11 4 2147483648 2147483668 as_b97 Eb_b97 f_b97 rs_b97 (e2_orG 231 83 11 4 2147483648 2147483668 as_b96 Eb_b96 f_b96 rs_b96 (e2_orG 231 83 11 4 2147483648 2147483668 as_b95 Eb_b95 f_b95 rs_b95 (e2_orG 231 83 11 4 2147483648 2147483668 as_b94 Eb_b94 f_b94 rs_b94 (e2_cal S_b119 I_b119 4000 1))))))))))))))))))))) (e2_fin rs_b119) e2x_230 (e2_bpL cl_b119_27) (e2_cutA cl_b119_27) 4000 (e2_seek e2x_230 49) al_b119_27 [] E_b119_27 h_b119_27 = true := by decide +kernel
set_option maxRecDepth 1000000 in
theorem ci_b119_27 : e2_idl 4 (al_b119_27.set 2 (9, 0, 0)) = true := by decide +kernel
set_option maxRecDepth 1000000 in
theorem cj_b119_27 : e2_idh 4 8 h_b119_27 = true := by decide +kernel
noncomputable def cl_b119_28 : List (Nat × e2_S) := [(49, e2_cutL (al_b119_27.set 2 (12, 12, 2147483647)) 4 (E_b119_27.take 4) h_b119_27),
  (55, e2_cutL (al_b119_28.set 3 (13, 13, 2147483657)) 5 (E_b119_28.take 5) h_b119_28)]
set_option maxRecDepth 1000000 in
theorem ck_b119_28 : e2_runM (e2_orG 231 83 11 4 2147483648 2147483668 as_b113 Eb_b113 f_b113 rs_b113 (e2_orG 231 83 11 4 2147483648 2147483668 as_b112 Eb_b112 f_b112 rs_b112 (e2_orG 231 83 11 4 2147483648 2147483668 as_b111 Eb_b111 f_b111 rs_b111 (e2_orG 231 83 11 4 2147483648 2147483668 as_b110 Eb_b110 f_b110 rs_b110 (e2_orG 231 83 11 4 2147483648 2147483668 as_b109 Eb_b109 f_b109 rs_b109 (e2_orG 231 83 11 4 2147483648 2147483668 as_b108 Eb_b108 f_b108 rs_b108 (e2_orG 231 83 11 4 2147483648 2147483668 as_b107 Eb_b107 f_b107 rs_b107 (e2_orG 231 83 11 4 2147483648 2147483668 as_b106 Eb_b106 f_b106 rs_b106 (e2_orG 231 83 11 4 2147483648 2147483668 as_b105 Eb_b105 f_b105 rs_b105 (e2_orG 231 83 11 4 2147483648 2147483668 as_b104 Eb_b104 f_b104 rs_b104 (e2_orG 231 83 11 4 2147483648 2147483668 as_b103 Eb_b103 f_b103 rs_b103 (e2_orG 231 83 11 4 2147483648 2147483668 as_b102 Eb_b102 f_b102 rs_b102 (e2_orG 231 83 11 4 2147483648 2147483668 as_b101 Eb_b101 f_b101 rs_b101 (e2_orG 231 83 11 4 2147483648 2147483668 as_b100 Eb_b100 f_b100 rs_b100 (e2_orG 231 83 11 4 2147483648 2147483668 as_b99 Eb_b99 f_b99 rs_b99 (e2_orG 231 83 11 4 2147483648 2147483668 as_b98 Eb_b98 f_b98 rs_b98 (e2_orG 231 83 11 4 2147483648 2147483668 as_b97 Eb_b97 f_b97 rs_b97 (e2_orG 231 83 11 4 2147483648 2147483668 as_b96 Eb_b96 f_b96 rs_b96 (e2_orG 231 83 11 4 2147483648 2147483668 as_b95 Eb_b95 f_b95 rs_b95 (e2_orG 231 83 11 4 2147483648 2147483668 as_b94 Eb_b94 f_b94 rs_b94 (e2_cal S_b119 I_b119 4000 1))))))))))))))))))))) (e2_fin rs_b119) e2x_230 (e2_bpL cl_b119_28) (e2_cutA cl_b119_28) 4000 (e2_seek e2x_230 55) al_b119_28 [] E_b119_28 h_b119_28 = true := by decide +kernel
set_option maxRecDepth 1000000 in
theorem ci_b119_28 : e2_idl 5 (al_b119_28.set 3 (9, 0, 0)) = true := by decide +kernel
set_option maxRecDepth 1000000 in
theorem cj_b119_28 : e2_idh 5 8 h_b119_28 = true := by decide +kernel
set_option maxRecDepth 1000000 in
theorem ck_b119_u120 : e2_cutsB (e2_orG 231 83 11 4 2147483648 2147483668 as_b113 Eb_b113 f_b113 rs_b113 (e2_orG 231 83 11 4 2147483648 2147483668 as_b112 Eb_b112 f_b112 rs_b112 (e2_orG 231 83 11 4 2147483648 2147483668 as_b111 Eb_b111 f_b111 rs_b111 (e2_orG 231 83 11 4 2147483648 2147483668 as_b110 Eb_b110 f_b110 rs_b110 (e2_orG 231 83 11 4 2147483648 2147483668 as_b109 Eb_b109 f_b109 rs_b109 (e2_orG 231 83 11 4 2147483648 2147483668 as_b108 Eb_b108 f_b108 rs_b108 (e2_orG 231 83 11 4 2147483648 2147483668 as_b107 Eb_b107 f_b107 rs_b107 (e2_orG 231 83 11 4 2147483648 2147483668 as_b106 Eb_b106 f_b106 rs_b106 (e2_orG 231 83 11 4 2147483648 2147483668 as_b105 Eb_b105 f_b105 rs_b105 (e2_orG 231 83 11 4 2147483648 2147483668 as_b104 Eb_b104 f_b104 rs_b104 (e2_orG 231 83 11 4 2147483648 2147483668 as_b103 Eb_b103 f_b103 rs_b103 (e2_orG 231 83 11 4 2147483648 2147483668 as_b102 Eb_b102 f_b102 rs_b102 (e2_orG 231 83 11 4 2147483648 2147483668 as_b101 Eb_b101 f_b101 rs_b101 (e2_orG 231 83 11 4 2147483648 2147483668 as_b100 Eb_b100 f_b100 rs_b100 (e2_orG 231 83 11 4 2147483648 2147483668 as_b99 Eb_b99 f_b99 rs_b99 (e2_orG 231 83 11 4 2147483648 2147483668 as_b98 Eb_b98 f_b98 rs_b98 (e2_orG 231 83 11 4 2147483648 2147483668 as_b97 Eb_b97 f_b97 rs_b97 (e2_orG 231 83 11 4 2147483648 2147483668 as_b96 Eb_b96 f_b96 rs_b96 (e2_orG 231 83 11 4 2147483648 2147483668 as_b95 Eb_b95 f_b95 rs_b95 (e2_orG 231 83 11 4 2147483648 2147483668 as_b94 Eb_b94 f_b94 rs_b94 (e2_cal S_b119 I_b119 4000 1))))))))))))))))))))) (e2_fin rs_b119) e2x_230 120 4000 cu_b119_120 = true := by decide +kernel
set_option maxRecDepth 1000000 in
theorem cs_b119 (hen : en_ok) (l : Launch) : e2_smOk l 5 s_b119 := by
  refine e2_conC (H := 4) (C := evd_230) (call := (e2_orG 231 83 11 4 2147483648 2147483668 as_b113 Eb_b113 f_b113 rs_b113 (e2_orG 231 83 11 4 2147483648 2147483668 as_b112 Eb_b112 f_b112 rs_b112 (e2_orG 231 83 11 4 2147483648 2147483668 as_b111 Eb_b111 f_b111 rs_b111 (e2_orG 231 83 11 4 2147483648 2147483668 as_b110 Eb_b110 f_b110 rs_b110 (e2_orG 231 83 11 4 2147483648 2147483668 as_b109 Eb_b109 f_b109 rs_b109 (e2_orG 231 83 11 4 2147483648 2147483668 as_b108 Eb_b108 f_b108 rs_b108 (e2_orG 231 83 11 4 2147483648 2147483668 as_b107 Eb_b107 f_b107 rs_b107 (e2_orG 231 83 11 4 2147483648 2147483668 as_b106 Eb_b106 f_b106 rs_b106 (e2_orG 231 83 11 4 2147483648 2147483668 as_b105 Eb_b105 f_b105 rs_b105 (e2_orG 231 83 11 4 2147483648 2147483668 as_b104 Eb_b104 f_b104 rs_b104 (e2_orG 231 83 11 4 2147483648 2147483668 as_b103 Eb_b103 f_b103 rs_b103 (e2_orG 231 83 11 4 2147483648 2147483668 as_b102 Eb_b102 f_b102 rs_b102 (e2_orG 231 83 11 4 2147483648 2147483668 as_b101 Eb_b101 f_b101 rs_b101 (e2_orG 231 83 11 4 2147483648 2147483668 as_b100 Eb_b100 f_b100 rs_b100 (e2_orG 231 83 11 4 2147483648 2147483668 as_b99 Eb_b99 f_b99 rs_b99 (e2_orG 231 83 11 4 2147483648 2147483668 as_b98 Eb_b98 f_b98 rs_b98 (e2_orG 231 83 11 4 2147483648 2147483668 as_b97 Eb_b97 f_b97 rs_b97 (e2_orG 231 83 11 4 2147483648 2147483668 as_b96 Eb_b96 f_b96 rs_b96 (e2_orG 231 83 11 4 2147483648 2147483668 as_b95 Eb_b95 f_b95 rs_b95 (e2_orG 231 83 11 4 2147483648 2147483668 as_b94 Eb_b94 f_b94 rs_b94 (e2_cal S_b119 I_b119 4000 1)))))))))))))))))))))) ei_230 (fun d hd => (e2_orG_ok (k0 := 231) (a := 83) (j := 11) (n := 4) (lo := 2147483648) (hi := 2147483668) (as0 := as_b113) (Eb := Eb_b113) (f := f_b113) (res := rs_b113) (e2_orG_ok (k0 := 231) (a := 83) (j := 11) (n := 4) (lo := 2147483648) (hi := 2147483668) (as0 := as_b112) (Eb := Eb_b112) (f := f_b112) (res := rs_b112) (e2_orG_ok (k0 := 231) (a := 83) (j := 11) (n := 4) (lo := 2147483648) (hi := 2147483668) (as0 := as_b111) (Eb := Eb_b111) (f := f_b111) (res := rs_b111) (e2_orG_ok (k0 := 231) (a := 83) (j := 11) (n := 4) (lo := 2147483648) (hi := 2147483668) (as0 := as_b110) (Eb := Eb_b110) (f := f_b110) (res := rs_b110) (e2_orG_ok (k0 := 231) (a := 83) (j := 11) (n := 4) (lo := 2147483648) (hi := 2147483668) (as0 := as_b109) (Eb := Eb_b109) (f := f_b109) (res := rs_b109) (e2_orG_ok (k0 := 231) (a := 83) (j := 11) (n := 4) (lo := 2147483648) (hi := 2147483668) (as0 := as_b108) (Eb := Eb_b108) (f := f_b108) (res := rs_b108) (e2_orG_ok (k0 := 231) (a := 83) (j := 11) (n := 4) (lo := 2147483648) (hi := 2147483668) (as0 := as_b107) (Eb := Eb_b107) (f := f_b107) (res := rs_b107) (e2_orG_ok (k0 := 231) (a := 83) (j := 11) (n := 4) (lo := 2147483648) (hi := 2147483668) (as0 := as_b106) (Eb := Eb_b106) (f := f_b106) (res := rs_b106) (e2_orG_ok (k0 := 231) (a := 83) (j := 11) (n := 4) (lo := 2147483648) (hi := 2147483668) (as0 := as_b105) (Eb := Eb_b105) (f := f_b105) (res := rs_b105) (e2_orG_ok (k0 := 231) (a := 83) (j := 11) (n := 4) (lo := 2147483648) (hi := 2147483668) (as0 := as_b104) (Eb := Eb_b104) (f := f_b104) (res := rs_b104) (e2_orG_ok (k0 := 231) (a := 83) (j := 11) (n := 4) (lo := 2147483648) (hi := 2147483668) (as0 := as_b103) (Eb := Eb_b103) (f := f_b103) (res := rs_b103) (e2_orG_ok (k0 := 231) (a := 83) (j := 11) (n := 4) (lo := 2147483648) (hi := 2147483668) (as0 := as_b102) (Eb := Eb_b102) (f := f_b102) (res := rs_b102) (e2_orG_ok (k0 := 231) (a := 83) (j := 11) (n := 4) (lo := 2147483648) (hi := 2147483668) (as0 := as_b101) (Eb := Eb_b101) (f := f_b101) (res := rs_b101) (e2_orG_ok (k0 := 231) (a := 83) (j := 11) (n := 4) (lo := 2147483648) (hi := 2147483668) (as0 := as_b100) (Eb := Eb_b100) (f := f_b100) (res := rs_b100) (e2_orG_ok (k0 := 231) (a := 83) (j := 11) (n := 4) (lo := 2147483648) (hi := 2147483668) (as0 := as_b99) (Eb := Eb_b99) (f := f_b99) (res := rs_b99) (e2_orG_ok (k0 := 231) (a := 83) (j := 11) (n := 4) (lo := 2147483648) (hi := 2147483668) (as0 := as_b98) (Eb := Eb_b98) (f := f_b98) (res := rs_b98) (e2_orG_ok (k0 := 231) (a := 83) (j := 11) (n := 4) (lo := 2147483648) (hi := 2147483668) (as0 := as_b97) (Eb := Eb_b97) (f := f_b97) (res := rs_b97) (e2_orG_ok (k0 := 231) (a := 83) (j := 11) (n := 4) (lo := 2147483648) (hi := 2147483668) (as0 := as_b96) (Eb := Eb_b96) (f := f_b96) (res := rs_b96) (e2_orG_ok (k0 := 231) (a := 83) (j := 11) (n := 4) (lo := 2147483648) (hi := 2147483668) (as0 := as_b95) (Eb := Eb_b95) (f := f_b95) (res := rs_b95) (e2_orG_ok (k0 := 231) (a := 83) (j := 11) (n := 4) (lo := 2147483648) (hi := 2147483668) (as0 := as_b94) (Eb := Eb_b94) (f := f_b94) (res := rs_b94) (e2_cal_ok hen (e2_fa (cs_b44 hen l) (e2_fa (cs_b45 hen l) (e2_fa (cs_b46 hen l) (e2_fa (cs_b47 hen l) (e2_fa (cs_b48 hen l) (e2_fa (cs_b49 hen l) (e2_fa (cs_b50 hen l) (e2_fa (cs_b51 hen l) (e2_fa (cs_b52 hen l) (e2_fa (cs_b53 hen l) (e2_fa (cs_b54 hen l) (e2_fa (cs_b55 hen l) (e2_fa (cs_b56 hen l) (e2_fa (cs_b57 hen l) (e2_fa (cs_b58 hen l) (e2_fa (cs_b59 hen l) (e2_fa (cs_b60 hen l) (e2_fa (cs_b61 hen l) (e2_fa (cs_b62 hen l) (e2_fa (cs_b63 hen l) e2_fz)))))))))))))))))))) (e2_fa ein_216 (e2_fa ein_217 (e2_fa ein_227 e2_fz))) 1 d (by omega)) rfl (by decide +kernel) (fun M hM => (cs_b94 hen l).2 M hM d (by omega)) (e2_okGB_ok cog_b94)) rfl (by decide +kernel) (fun M hM => (cs_b95 hen l).2 M hM d (by omega)) (e2_okGB_ok cog_b95)) rfl (by decide +kernel) (fun M hM => (cs_b96 hen l).2 M hM d (by omega)) (e2_okGB_ok cog_b96)) rfl (by decide +kernel) (fun M hM => (cs_b97 hen l).2 M hM d (by omega)) (e2_okGB_ok cog_b97)) rfl (by decide +kernel) (fun M hM => (cs_b98 hen l).2 M hM d (by omega)) (e2_okGB_ok cog_b98)) rfl (by decide +kernel) (fun M hM => (cs_b99 hen l).2 M hM d (by omega)) (e2_okGB_ok cog_b99)) rfl (by decide +kernel) (fun M hM => (cs_b100 hen l).2 M hM d (by omega)) (e2_okGB_ok cog_b100)) rfl (by decide +kernel) (fun M hM => (cs_b101 hen l).2 M hM d (by omega)) (e2_okGB_ok cog_b101)) rfl (by decide +kernel) (fun M hM => (cs_b102 hen l).2 M hM d (by omega)) (e2_okGB_ok cog_b102)) rfl (by decide +kernel) (fun M hM => (cs_b103 hen l).2 M hM d (by omega)) (e2_okGB_ok cog_b103)) rfl (by decide +kernel) (fun M hM => (cs_b104 hen l).2 M hM d (by omega)) (e2_okGB_ok cog_b104)) rfl (by decide +kernel) (fun M hM => (cs_b105 hen l).2 M hM d (by omega)) (e2_okGB_ok cog_b105)) rfl (by decide +kernel) (fun M hM => (cs_b106 hen l).2 M hM d (by omega)) (e2_okGB_ok cog_b106)) rfl (by decide +kernel) (fun M hM => (cs_b107 hen l).2 M hM d (by omega)) (e2_okGB_ok cog_b107)) rfl (by decide +kernel) (fun M hM => (cs_b108 hen l).2 M hM d (by omega)) (e2_okGB_ok cog_b108)) rfl (by decide +kernel) (fun M hM => (cs_b109 hen l).2 M hM d (by omega)) (e2_okGB_ok cog_b109)) rfl (by decide +kernel) (fun M hM => (cs_b110 hen l).2 M hM d (by omega)) (e2_okGB_ok cog_b110)) rfl (by decide +kernel) (fun M hM => (cs_b111 hen l).2 M hM d (by omega)) (e2_okGB_ok cog_b111)) rfl (by decide +kernel) (fun M hM => (cs_b112 hen l).2 M hM d (by omega)) (e2_okGB_ok cog_b112)) rfl (by decide +kernel) (fun M hM => (cs_b113 hen l).2 M hM d (by omega)) (e2_okGB_ok cog_b113))) (by decide) co_b119 fun M d _ hC hcall p e R s m args below meth c Q D cA A ads r0 ha hl0 => ?_
  have EN_120 := e2_cutS_ok (bp := 120) (cuts := cu_b119_120) (e2_cuts_len hl0 (by decide +kernel)) (e2_cuts_ok hen ha hcall (hC [76, 192, 195]) (X := e2x_230) ex2_230 (e2_cuts_len hl0 (by decide +kernel)) ck_b119_u120)
  have L_27 : e2_gdM M p l e R s m args below meth c Q D cA A ads r0 49 al_b119_27 [] E_b119_27 h_b119_27 := by
    refine e2_indD (u := 4) (j := 2) (lo := 2147483647) (hi := 2147483667) hl0 (by decide) rfl rfl rfl ci_b119_27 cj_b119_27 ?_
    intro r_27 k_27 hk_27 hp_27 hs_27 hn_27
    have hl_27 : r_27.length ≤ 5 := hs_27.len rfl
    have ha_27 := ha.ext hp_27
    have L_28 : e2_gdM M p l e R s m args below meth c Q D cA A ads r_27 55 al_b119_28 [] E_b119_28 h_b119_28 := by
      refine e2_indL (u := 5) (j := 3) (lo := 2147483648) (hi := 2147483657) (b := 5) (dd := 0) hl_27 (by decide) rfl rfl (Or.inr ⟨rfl, rfl⟩) rfl ci_b119_28 cj_b119_28 ?_
      intro r_28 k_28 hk_28 hp_28 hs_28 hn_28
      have hl_28 : r_28.length ≤ 6 := hs_28.len rfl
      have ha_28 := ha_27.ext hp_28
      exact e2_fromM hen ha_28 hcall (e2_cutA_ok (e2_fa (fun al st E h hc => (hn_27 al st E h hc).ext hp_28) (e2_fa (fun al st E h hc => hn_28 al st E h hc) e2_fz))) (hC [76, 192, 195]) (X := e2x_230) ex2_230 55 ck_b119_28
    have EN_28 := e2_entL (u := 5) (j := 3) (lo := 2147483648) (hi := 2147483657) hl_27 rfl rfl rfl ci_b119_28 cj_b119_28 L_28
    exact e2_fromM hen ha_27 hcall (e2_cutA_ok (e2_fa (fun al st E h hc => (EN_120 al st E h hc).ext hp_27) (e2_fa (fun al st E h hc => EN_28 al st E h hc) e2_fz))) (hC [76, 192, 195]) (X := e2x_230) ex2_230 49 ck_b119_27
  have EN_27 := e2_entL (u := 4) (j := 2) (lo := 2147483647) (hi := 2147483667) hl0 rfl rfl rfl ci_b119_27 cj_b119_27 L_27
  have L_26 : e2_gdM M p l e R s m args below meth c Q D cA A ads r0 2 al_b119_26 [] E_b119_26 h_b119_26 := by
    refine e2_indL (u := 4) (j := 2) (lo := 2147483648) (hi := 2147483657) (b := 4) (dd := 0) hl0 (by decide) rfl rfl (Or.inr ⟨rfl, rfl⟩) rfl ci_b119_26 cj_b119_26 ?_
    intro r_26 k_26 hk_26 hp_26 hs_26 hn_26
    have hl_26 : r_26.length ≤ 5 := hs_26.len rfl
    have ha_26 := ha.ext hp_26
    exact e2_fromM hen ha_26 hcall (e2_cutA_ok (e2_fa (fun al st E h hc => hn_26 al st E h hc) (e2_fa (fun al st E h hc => (EN_27 al st E h hc).ext hp_26) e2_fz))) (hC [76, 192, 195]) (X := e2x_230) ex2_230 2 ck_b119_26
  have EN_26 := e2_entL (u := 4) (j := 2) (lo := 2147483648) (hi := 2147483657) hl0 rfl rfl rfl ci_b119_26 cj_b119_26 L_26
  exact e2_from hen ha hcall (e2_cutA_ok (e2_fa (fun al st E h hc => EN_26 al st E h hc) e2_fz)) (hC [76, 192, 195]) (X := e2x_230) ex2_230 0 ck_b119_e
/-! b120 X10_read -/
def as_b120 : List ev_V := [(2, 83, 0), (11, 0, 4294967295)]
def E_b120 : e2_E := [(2147483648, 2147583648, 0, 0), (2147483654, 2147483654, 1, 0), (2147483648, 2147483688, 2, 0), (2147483648, 2147483688, 3, 0)]
def bn1381 : e2_Q7 := (bn874, bn457)
def bn1382 : e2_Q8 := (bn477, bn1381)
noncomputable def f_b120 : ev_H := (bn1382 : e2_Q8)
noncomputable def q_b120_0 : ev_H := (bn1382 : e2_Q8)
noncomputable def rs_b120 : e2_Rs := [((11, 2147483647, 2147483668), q_b120_0)]
noncomputable def s_b120 : e2_Sm := (230, as_b120, E_b120, f_b120, rs_b120)
noncomputable def S_b120 : List e2_Sm := [s_b44, s_b45, s_b46, s_b47, s_b48, s_b49, s_b50, s_b51, s_b52, s_b53, s_b54, s_b55, s_b56, s_b57, s_b58, s_b59, s_b60, s_b61, s_b62, s_b63]
noncomputable def I_b120 : List e2_In := [(216, 1, e2x_216), (217, 1, e2x_217), (227, 2, e2x_227)]
set_option maxRecDepth 1000000 in
theorem co_b120 : e2_okSB E_b120.length as_b120 f_b120 rs_b120 = true := by decide +kernel
def al_b120_26 : List ev_V := [(2, 83, 0), (11, 0, 4294967295), (1, 4, 4294967296), (9, 0, 0), (9, 0, 0)]
def E_b120_26 : e2_E := [(2147483648, 2147583648, 0, 0), (2147483654, 2147483654, 1, 0), (2147483648, 2147483688, 2, 0), (2147483648, 2147483688, 3, 0), (2147483648, 2147483657, 4, 0)]
noncomputable def h_b120_26 : ev_H := (bn1382 : e2_Q8)
def al_b120_27 : List ev_V := [(2, 83, 0), (11, 0, 4294967295), (1, 4, 4294967296), (9, 0, 0), (9, 0, 0)]
def E_b120_27 : e2_E := [(2147483648, 2147583648, 0, 0), (2147483654, 2147483654, 1, 0), (2147483648, 2147483688, 2, 0), (2147483648, 2147483688, 3, 0), (2147483647, 2147483667, 4, 0)]
noncomputable def h_b120_27 : ev_H := (bn1382 : e2_Q8)
def al_b120_28 : List ev_V := [(2, 83, 0), (11, 0, 4294967295), (1, 4, 4294967296), (1, 5, 4294967296), (9, 0, 0)]
def E_b120_28 : e2_E := [(2147483648, 2147583648, 0, 0), (2147483654, 2147483654, 1, 0), (2147483648, 2147483688, 2, 0), (2147483648, 2147483688, 3, 0), (2147483648, 2147483667, 4, 0), (2147483648, 2147483657, 5, 0)]
noncomputable def h_b120_28 : ev_H := (bn1382 : e2_Q8)
def bn1383 : e2_Q7 := (bn874, bn1038)
def bn1384 : e2_Q8 := (bn477, bn1383)
noncomputable def h_b120_0 : ev_H := (bn1384 : e2_Q8)
def bn1385 : e2_Q7 := (bn874, bn1050)
def bn1386 : e2_Q8 := (bn477, bn1385)
noncomputable def h_b120_1 : ev_H := (bn1386 : e2_Q8)
def bn1387 : e2_Q7 := (bn874, bn1058)
def bn1388 : e2_Q8 := (bn477, bn1387)
noncomputable def h_b120_2 : ev_H := (bn1388 : e2_Q8)
def bn1389 : e2_Q7 := (bn874, bn1066)
def bn1390 : e2_Q8 := (bn477, bn1389)
noncomputable def h_b120_3 : ev_H := (bn1390 : e2_Q8)
def bn1391 : e2_Q7 := (bn874, bn1074)
def bn1392 : e2_Q8 := (bn477, bn1391)
noncomputable def h_b120_4 : ev_H := (bn1392 : e2_Q8)
def bn1393 : e2_Q7 := (bn874, bn1082)
def bn1394 : e2_Q8 := (bn477, bn1393)
noncomputable def h_b120_5 : ev_H := (bn1394 : e2_Q8)
def bn1395 : e2_Q7 := (bn874, bn1090)
def bn1396 : e2_Q8 := (bn477, bn1395)
noncomputable def h_b120_6 : ev_H := (bn1396 : e2_Q8)
def bn1397 : e2_Q7 := (bn874, bn1098)
def bn1398 : e2_Q8 := (bn477, bn1397)
noncomputable def h_b120_7 : ev_H := (bn1398 : e2_Q8)
def bn1399 : e2_Q7 := (bn874, bn1106)
def bn1400 : e2_Q8 := (bn477, bn1399)
noncomputable def h_b120_8 : ev_H := (bn1400 : e2_Q8)
def bn1401 : e2_Q7 := (bn874, bn1114)
def bn1402 : e2_Q8 := (bn477, bn1401)
noncomputable def h_b120_9 : ev_H := (bn1402 : e2_Q8)
def bn1403 : e2_Q7 := (bn874, bn1122)
def bn1404 : e2_Q8 := (bn477, bn1403)
noncomputable def h_b120_10 : ev_H := (bn1404 : e2_Q8)
def bn1405 : e2_Q7 := (bn874, bn1130)
def bn1406 : e2_Q8 := (bn477, bn1405)
noncomputable def h_b120_11 : ev_H := (bn1406 : e2_Q8)
def bn1407 : e2_Q7 := (bn874, bn1138)
def bn1408 : e2_Q8 := (bn477, bn1407)
noncomputable def h_b120_12 : ev_H := (bn1408 : e2_Q8)
def bn1409 : e2_Q7 := (bn874, bn1146)
def bn1410 : e2_Q8 := (bn477, bn1409)
noncomputable def h_b120_13 : ev_H := (bn1410 : e2_Q8)
def bn1411 : e2_Q7 := (bn874, bn1154)
def bn1412 : e2_Q8 := (bn477, bn1411)
noncomputable def h_b120_14 : ev_H := (bn1412 : e2_Q8)
def bn1413 : e2_Q7 := (bn874, bn1162)
def bn1414 : e2_Q8 := (bn477, bn1413)
noncomputable def h_b120_15 : ev_H := (bn1414 : e2_Q8)
def bn1415 : e2_Q7 := (bn874, bn1170)
def bn1416 : e2_Q8 := (bn477, bn1415)
noncomputable def h_b120_16 : ev_H := (bn1416 : e2_Q8)
def bn1417 : e2_Q7 := (bn874, bn1178)
def bn1418 : e2_Q8 := (bn477, bn1417)
noncomputable def h_b120_17 : ev_H := (bn1418 : e2_Q8)
def bn1419 : e2_Q7 := (bn874, bn1186)
def bn1420 : e2_Q8 := (bn477, bn1419)
noncomputable def h_b120_18 : ev_H := (bn1420 : e2_Q8)
def bn1421 : e2_Q7 := (bn874, bn1194)
def bn1422 : e2_Q8 := (bn477, bn1421)
noncomputable def h_b120_19 : ev_H := (bn1422 : e2_Q8)
noncomputable def h_b120_20 : ev_H := (bn1382 : e2_Q8)
def bn1423 : e2_Q7 := (bn874, bn1202)
def bn1424 : e2_Q8 := (bn477, bn1423)
noncomputable def h_b120_21 : ev_H := (bn1424 : e2_Q8)
noncomputable def h_b120_22 : ev_H := (bn1424 : e2_Q8)
noncomputable def h_b120_23 : ev_H := (bn1424 : e2_Q8)
noncomputable def h_b120_24 : ev_H := (bn1424 : e2_Q8)
noncomputable def h_b120_25 : ev_H := (bn1424 : e2_Q8)
noncomputable def cu_b120_120 : List e2_Cu := [([(2, 83, 0), (11, 0, 4294967295), (0, 0, 0), (0, 8, 0), (9, 0, 0)], [(2147483648, 2147583648, 0, 0), (2147483654, 2147483654, 1, 0), (2147483648, 2147483688, 2, 0), (2147483648, 2147483688, 3, 0)], h_b120_0),
  ([(2, 83, 0), (11, 0, 4294967295), (0, 1, 0), (11, 2147483648, 2147483656), (11, 2147483647, 2147483653)], [(2147483648, 2147583648, 0, 0), (2147483654, 2147483654, 1, 0), (2147483648, 2147483688, 2, 0), (2147483648, 2147483688, 3, 0)], h_b120_1),
  ([(2, 83, 0), (11, 0, 4294967295), (0, 2, 0), (11, 2147483648, 2147483656), (11, 2147483647, 2147483653)], [(2147483648, 2147583648, 0, 0), (2147483654, 2147483654, 1, 0), (2147483648, 2147483688, 2, 0), (2147483648, 2147483688, 3, 0)], h_b120_2),
  ([(2, 83, 0), (11, 0, 4294967295), (0, 3, 0), (11, 2147483648, 2147483656), (11, 2147483647, 2147483653)], [(2147483648, 2147583648, 0, 0), (2147483654, 2147483654, 1, 0), (2147483648, 2147483688, 2, 0), (2147483648, 2147483688, 3, 0)], h_b120_3),
  ([(2, 83, 0), (11, 0, 4294967295), (0, 4, 0), (11, 2147483648, 2147483656), (11, 2147483647, 2147483653)], [(2147483648, 2147583648, 0, 0), (2147483654, 2147483654, 1, 0), (2147483648, 2147483688, 2, 0), (2147483648, 2147483688, 3, 0)], h_b120_4),
  ([(2, 83, 0), (11, 0, 4294967295), (0, 5, 0), (11, 2147483648, 2147483656), (11, 2147483647, 2147483653)], [(2147483648, 2147583648, 0, 0), (2147483654, 2147483654, 1, 0), (2147483648, 2147483688, 2, 0), (2147483648, 2147483688, 3, 0)], h_b120_5),
  ([(2, 83, 0), (11, 0, 4294967295), (0, 6, 0), (11, 2147483648, 2147483656), (11, 2147483647, 2147483653)], [(2147483648, 2147583648, 0, 0), (2147483654, 2147483654, 1, 0), (2147483648, 2147483688, 2, 0), (2147483648, 2147483688, 3, 0)], h_b120_6),
  ([(2, 83, 0), (11, 0, 4294967295), (0, 7, 0), (11, 2147483648, 2147483656), (11, 2147483647, 2147483653)], [(2147483648, 2147583648, 0, 0), (2147483654, 2147483654, 1, 0), (2147483648, 2147483688, 2, 0), (2147483648, 2147483688, 3, 0)], h_b120_7),
  ([(2, 83, 0), (11, 0, 4294967295), (0, 8, 0), (11, 2147483648, 2147483656), (11, 2147483647, 2147483653)], [(2147483648, 2147583648, 0, 0), (2147483654, 2147483654, 1, 0), (2147483648, 2147483688, 2, 0), (2147483648, 2147483688, 3, 0)], h_b120_8),
  ([(2, 83, 0), (11, 0, 4294967295), (0, 9, 0), (11, 2147483648, 2147483656), (11, 2147483647, 2147483653)], [(2147483648, 2147583648, 0, 0), (2147483654, 2147483654, 1, 0), (2147483648, 2147483688, 2, 0), (2147483648, 2147483688, 3, 0)], h_b120_9),
  ([(2, 83, 0), (11, 0, 4294967295), (0, 10, 0), (11, 2147483648, 2147483656), (11, 2147483647, 2147483653)], [(2147483648, 2147583648, 0, 0), (2147483654, 2147483654, 1, 0), (2147483648, 2147483688, 2, 0), (2147483648, 2147483688, 3, 0)], h_b120_10),
  ([(2, 83, 0), (11, 0, 4294967295), (0, 11, 0), (11, 2147483648, 2147483656), (11, 2147483647, 2147483653)], [(2147483648, 2147583648, 0, 0), (2147483654, 2147483654, 1, 0), (2147483648, 2147483688, 2, 0), (2147483648, 2147483688, 3, 0)], h_b120_11),
  ([(2, 83, 0), (11, 0, 4294967295), (0, 12, 0), (11, 2147483648, 2147483656), (11, 2147483647, 2147483653)], [(2147483648, 2147583648, 0, 0), (2147483654, 2147483654, 1, 0), (2147483648, 2147483688, 2, 0), (2147483648, 2147483688, 3, 0)], h_b120_12),
  ([(2, 83, 0), (11, 0, 4294967295), (0, 13, 0), (11, 2147483648, 2147483656), (11, 2147483647, 2147483653)], [(2147483648, 2147583648, 0, 0), (2147483654, 2147483654, 1, 0), (2147483648, 2147483688, 2, 0), (2147483648, 2147483688, 3, 0)], h_b120_13),
  ([(2, 83, 0), (11, 0, 4294967295), (0, 14, 0), (11, 2147483648, 2147483656), (11, 2147483647, 2147483653)], [(2147483648, 2147583648, 0, 0), (2147483654, 2147483654, 1, 0), (2147483648, 2147483688, 2, 0), (2147483648, 2147483688, 3, 0)], h_b120_14),
  ([(2, 83, 0), (11, 0, 4294967295), (0, 15, 0), (11, 2147483648, 2147483656), (11, 2147483647, 2147483653)], [(2147483648, 2147583648, 0, 0), (2147483654, 2147483654, 1, 0), (2147483648, 2147483688, 2, 0), (2147483648, 2147483688, 3, 0)], h_b120_15),
  ([(2, 83, 0), (11, 0, 4294967295), (0, 16, 0), (11, 2147483648, 2147483656), (11, 2147483647, 2147483653)], [(2147483648, 2147583648, 0, 0), (2147483654, 2147483654, 1, 0), (2147483648, 2147483688, 2, 0), (2147483648, 2147483688, 3, 0)], h_b120_16),
  ([(2, 83, 0), (11, 0, 4294967295), (0, 17, 0), (11, 2147483648, 2147483656), (11, 2147483647, 2147483653)], [(2147483648, 2147583648, 0, 0), (2147483654, 2147483654, 1, 0), (2147483648, 2147483688, 2, 0), (2147483648, 2147483688, 3, 0)], h_b120_17),
  ([(2, 83, 0), (11, 0, 4294967295), (0, 18, 0), (11, 2147483648, 2147483656), (11, 2147483647, 2147483653)], [(2147483648, 2147583648, 0, 0), (2147483654, 2147483654, 1, 0), (2147483648, 2147483688, 2, 0), (2147483648, 2147483688, 3, 0)], h_b120_18),
  ([(2, 83, 0), (11, 0, 4294967295), (0, 19, 0), (11, 2147483648, 2147483656), (11, 2147483647, 2147483653)], [(2147483648, 2147583648, 0, 0), (2147483654, 2147483654, 1, 0), (2147483648, 2147483688, 2, 0), (2147483648, 2147483688, 3, 0)], h_b120_19),
  ([(2, 83, 0), (11, 0, 4294967295), (0, 20, 0), (11, 2147483648, 2147483656), (11, 2147483647, 2147483653)], [(2147483648, 2147583648, 0, 0), (2147483654, 2147483654, 1, 0), (2147483648, 2147483688, 2, 0), (2147483648, 2147483688, 3, 0)], h_b120_20),
  ([(2, 83, 0), (11, 0, 4294967295), (0, 21, 0), (11, 2147483648, 2147483653), (11, 2147483648, 2147483653)], [(2147483648, 2147583648, 0, 0), (2147483654, 2147483654, 1, 0), (2147483648, 2147483688, 2, 0), (2147483648, 2147483688, 3, 0)], h_b120_21),
  ([(2, 83, 0), (11, 0, 4294967295), (0, 22, 0), (11, 2147483648, 2147483653), (11, 2147483648, 2147483653)], [(2147483648, 2147583648, 0, 0), (2147483654, 2147483654, 1, 0), (2147483648, 2147483688, 2, 0), (2147483648, 2147483688, 3, 0)], h_b120_22),
  ([(2, 83, 0), (11, 0, 4294967295), (0, 23, 0), (11, 2147483648, 2147483653), (11, 2147483648, 2147483653)], [(2147483648, 2147583648, 0, 0), (2147483654, 2147483654, 1, 0), (2147483648, 2147483688, 2, 0), (2147483648, 2147483688, 3, 0)], h_b120_23),
  ([(2, 83, 0), (11, 0, 4294967295), (0, 24, 0), (11, 2147483648, 2147483653), (11, 2147483648, 2147483653)], [(2147483648, 2147583648, 0, 0), (2147483654, 2147483654, 1, 0), (2147483648, 2147483688, 2, 0), (2147483648, 2147483688, 3, 0)], h_b120_24),
  ([(2, 83, 0), (11, 0, 4294967295), (0, 25, 0), (11, 2147483648, 2147483653), (11, 2147483648, 2147483653)], [(2147483648, 2147583648, 0, 0), (2147483654, 2147483654, 1, 0), (2147483648, 2147483688, 2, 0), (2147483648, 2147483688, 3, 0)], h_b120_25)]
noncomputable def cl_b120_e : List (Nat × e2_S) := [(2, e2_cutL (al_b120_26.set 2 (11, 2147483648, 2147483657)) 4 (E_b120_26.take 4) h_b120_26)]
set_option maxRecDepth 1000000 in
theorem ck_b120_e : e2_run (e2_orG 231 83 11 4 2147483648 2147483668 as_b113 Eb_b113 f_b113 rs_b113 (e2_orG 231 83 11 4 2147483648 2147483668 as_b112 Eb_b112 f_b112 rs_b112 (e2_orG 231 83 11 4 2147483648 2147483668 as_b111 Eb_b111 f_b111 rs_b111 (e2_orG 231 83 11 4 2147483648 2147483668 as_b110 Eb_b110 f_b110 rs_b110 (e2_orG 231 83 11 4 2147483648 2147483668 as_b109 Eb_b109 f_b109 rs_b109 (e2_orG 231 83 11 4 2147483648 2147483668 as_b108 Eb_b108 f_b108 rs_b108 (e2_orG 231 83 11 4 2147483648 2147483668 as_b107 Eb_b107 f_b107 rs_b107 (e2_orG 231 83 11 4 2147483648 2147483668 as_b106 Eb_b106 f_b106 rs_b106 (e2_orG 231 83 11 4 2147483648 2147483668 as_b105 Eb_b105 f_b105 rs_b105 (e2_orG 231 83 11 4 2147483648 2147483668 as_b104 Eb_b104 f_b104 rs_b104 (e2_orG 231 83 11 4 2147483648 2147483668 as_b103 Eb_b103 f_b103 rs_b103 (e2_orG 231 83 11 4 2147483648 2147483668 as_b102 Eb_b102 f_b102 rs_b102 (e2_orG 231 83 11 4 2147483648 2147483668 as_b101 Eb_b101 f_b101 rs_b101 (e2_orG 231 83 11 4 2147483648 2147483668 as_b100 Eb_b100 f_b100 rs_b100 (e2_orG 231 83 11 4 2147483648 2147483668 as_b99 Eb_b99 f_b99 rs_b99 (e2_orG 231 83 11 4 2147483648 2147483668 as_b98 Eb_b98 f_b98 rs_b98 (e2_orG 231 83 11 4 2147483648 2147483668 as_b97 Eb_b97 f_b97 rs_b97 (e2_orG 231 83 11 4 2147483648 2147483668 as_b96 Eb_b96 f_b96 rs_b96 (e2_orG 231 83 11 4 2147483648 2147483668 as_b95 Eb_b95 f_b95 rs_b95 (e2_orG 231 83 11 4 2147483648 2147483668 as_b94 Eb_b94 f_b94 rs_b94 (e2_cal S_b120 I_b120 4000 1))))))))))))))))))))) (e2_fin rs_b120) e2x_230 (e2_bpL cl_b120_e) (e2_cutA cl_b120_e) 4000 (e2_seek e2x_230 0) (e2_al 5 as_b120) [] E_b120 f_b120 = true := by decide +kernel
noncomputable def cl_b120_26 : List (Nat × e2_S) := [(2, e2_cutL (al_b120_26.set 2 (13, 12, 2147483657)) 4 (E_b120_26.take 4) h_b120_26),
  (49, e2_cutL (al_b120_27.set 2 (11, 2147483647, 2147483667)) 4 (E_b120_27.take 4) h_b120_27)]
set_option maxRecDepth 1000000 in
theorem ck_b120_26 : e2_runM (e2_orG 231 83 11 4 2147483648 2147483668 as_b113 Eb_b113 f_b113 rs_b113 (e2_orG 231 83 11 4 2147483648 2147483668 as_b112 Eb_b112 f_b112 rs_b112 (e2_orG 231 83 11 4 2147483648 2147483668 as_b111 Eb_b111 f_b111 rs_b111 (e2_orG 231 83 11 4 2147483648 2147483668 as_b110 Eb_b110 f_b110 rs_b110 (e2_orG 231 83 11 4 2147483648 2147483668 as_b109 Eb_b109 f_b109 rs_b109 (e2_orG 231 83 11 4 2147483648 2147483668 as_b108 Eb_b108 f_b108 rs_b108 (e2_orG 231 83 11 4 2147483648 2147483668 as_b107 Eb_b107 f_b107 rs_b107 (e2_orG 231 83 11 4 2147483648 2147483668 as_b106 Eb_b106 f_b106 rs_b106 (e2_orG 231 83 11 4 2147483648 2147483668 as_b105 Eb_b105 f_b105 rs_b105 (e2_orG 231 83 11 4 2147483648 2147483668 as_b104 Eb_b104 f_b104 rs_b104 (e2_orG 231 83 11 4 2147483648 2147483668 as_b103 Eb_b103 f_b103 rs_b103 (e2_orG 231 83 11 4 2147483648 2147483668 as_b102 Eb_b102 f_b102 rs_b102 (e2_orG 231 83 11 4 2147483648 2147483668 as_b101 Eb_b101 f_b101 rs_b101 (e2_orG 231 83 11 4 2147483648 2147483668 as_b100 Eb_b100 f_b100 rs_b100 (e2_orG 231 83 11 4 2147483648 2147483668 as_b99 Eb_b99 f_b99 rs_b99 (e2_orG 231 83 11 4 2147483648 2147483668 as_b98 Eb_b98 f_b98 rs_b98 (e2_orG 231 83 11 4 2147483648 2147483668 as_b97 Eb_b97 f_b97 rs_b97 (e2_orG 231 83 11 4 2147483648 2147483668 as_b96 Eb_b96 f_b96 rs_b96 (e2_orG 231 83 11 4 2147483648 2147483668 as_b95 Eb_b95 f_b95 rs_b95 (e2_orG 231 83 11 4 2147483648 2147483668 as_b94 Eb_b94 f_b94 rs_b94 (e2_cal S_b120 I_b120 4000 1))))))))))))))))))))) (e2_fin rs_b120) e2x_230 (e2_bpL cl_b120_26) (e2_cutA cl_b120_26) 4000 (e2_seek e2x_230 2) al_b120_26 [] E_b120_26 h_b120_26 = true := by decide +kernel
set_option maxRecDepth 1000000 in
theorem ci_b120_26 : e2_idl 4 (al_b120_26.set 2 (9, 0, 0)) = true := by decide +kernel
set_option maxRecDepth 1000000 in
theorem cj_b120_26 : e2_idh 4 8 h_b120_26 = true := by decide +kernel
noncomputable def cl_b120_27 : List (Nat × e2_S) := [(120, e2_cutS cu_b120_120),
  (55, e2_cutL (al_b120_28.set 3 (11, 2147483648, 2147483657)) 5 (E_b120_28.take 5) h_b120_28)]
set_option maxRecDepth 1000000 in
theorem ck_b120_27 : e2_runM (e2_orG 231 83 11 4 2147483648 2147483668 as_b113 Eb_b113 f_b113 rs_b113 (e2_orG 231 83 11 4 2147483648 2147483668 as_b112 Eb_b112 f_b112 rs_b112 (e2_orG 231 83 11 4 2147483648 2147483668 as_b111 Eb_b111 f_b111 rs_b111 (e2_orG 231 83 11 4 2147483648 2147483668 as_b110 Eb_b110 f_b110 rs_b110 (e2_orG 231 83 11 4 2147483648 2147483668 as_b109 Eb_b109 f_b109 rs_b109 (e2_orG 231 83 11 4 2147483648 2147483668 as_b108 Eb_b108 f_b108 rs_b108 (e2_orG 231 83 11 4 2147483648 2147483668 as_b107 Eb_b107 f_b107 rs_b107 (e2_orG 231 83 11 4 2147483648 2147483668 as_b106 Eb_b106 f_b106 rs_b106 (e2_orG 231 83 11 4 2147483648 2147483668 as_b105 Eb_b105 f_b105 rs_b105 (e2_orG 231 83 11 4 2147483648 2147483668 as_b104 Eb_b104 f_b104 rs_b104 (e2_orG 231 83 11 4 2147483648 2147483668 as_b103 Eb_b103 f_b103 rs_b103 (e2_orG 231 83 11 4 2147483648 2147483668 as_b102 Eb_b102 f_b102 rs_b102 (e2_orG 231 83 11 4 2147483648 2147483668 as_b101 Eb_b101 f_b101 rs_b101 (e2_orG 231 83 11 4 2147483648 2147483668 as_b100 Eb_b100 f_b100 rs_b100 (e2_orG 231 83 11 4 2147483648 2147483668 as_b99 Eb_b99 f_b99 rs_b99 (e2_orG 231 83 11 4 2147483648 2147483668 as_b98 Eb_b98 f_b98 rs_b98 (e2_orG 231 83 11 4 2147483648 2147483668 as_b97 Eb_b97 f_b97 rs_b97 (e2_orG 231 83 11 4 2147483648 2147483668 as_b96 Eb_b96 f_b96 rs_b96 (e2_orG 231 83 11 4 2147483648 2147483668 as_b95 Eb_b95 f_b95 rs_b95 (e2_orG 231 83 11 4 2147483648 2147483668 as_b94 Eb_b94 f_b94 rs_b94 (e2_cal S_b120 I_b120 4000 1))))))))))))))))))))) (e2_fin rs_b120) e2x_230 (e2_bpL cl_b120_27) (e2_cutA cl_b120_27) 4000 (e2_seek e2x_230 49) al_b120_27 [] E_b120_27 h_b120_27 = true := by decide +kernel
set_option maxRecDepth 1000000 in
theorem ci_b120_27 : e2_idl 4 (al_b120_27.set 2 (9, 0, 0)) = true := by decide +kernel
set_option maxRecDepth 1000000 in
theorem cj_b120_27 : e2_idh 4 8 h_b120_27 = true := by decide +kernel
noncomputable def cl_b120_28 : List (Nat × e2_S) := [(49, e2_cutL (al_b120_27.set 2 (12, 12, 2147483647)) 4 (E_b120_27.take 4) h_b120_27),
  (55, e2_cutL (al_b120_28.set 3 (13, 13, 2147483657)) 5 (E_b120_28.take 5) h_b120_28)]
set_option maxRecDepth 1000000 in
theorem ck_b120_28 : e2_runM (e2_orG 231 83 11 4 2147483648 2147483668 as_b113 Eb_b113 f_b113 rs_b113 (e2_orG 231 83 11 4 2147483648 2147483668 as_b112 Eb_b112 f_b112 rs_b112 (e2_orG 231 83 11 4 2147483648 2147483668 as_b111 Eb_b111 f_b111 rs_b111 (e2_orG 231 83 11 4 2147483648 2147483668 as_b110 Eb_b110 f_b110 rs_b110 (e2_orG 231 83 11 4 2147483648 2147483668 as_b109 Eb_b109 f_b109 rs_b109 (e2_orG 231 83 11 4 2147483648 2147483668 as_b108 Eb_b108 f_b108 rs_b108 (e2_orG 231 83 11 4 2147483648 2147483668 as_b107 Eb_b107 f_b107 rs_b107 (e2_orG 231 83 11 4 2147483648 2147483668 as_b106 Eb_b106 f_b106 rs_b106 (e2_orG 231 83 11 4 2147483648 2147483668 as_b105 Eb_b105 f_b105 rs_b105 (e2_orG 231 83 11 4 2147483648 2147483668 as_b104 Eb_b104 f_b104 rs_b104 (e2_orG 231 83 11 4 2147483648 2147483668 as_b103 Eb_b103 f_b103 rs_b103 (e2_orG 231 83 11 4 2147483648 2147483668 as_b102 Eb_b102 f_b102 rs_b102 (e2_orG 231 83 11 4 2147483648 2147483668 as_b101 Eb_b101 f_b101 rs_b101 (e2_orG 231 83 11 4 2147483648 2147483668 as_b100 Eb_b100 f_b100 rs_b100 (e2_orG 231 83 11 4 2147483648 2147483668 as_b99 Eb_b99 f_b99 rs_b99 (e2_orG 231 83 11 4 2147483648 2147483668 as_b98 Eb_b98 f_b98 rs_b98 (e2_orG 231 83 11 4 2147483648 2147483668 as_b97 Eb_b97 f_b97 rs_b97 (e2_orG 231 83 11 4 2147483648 2147483668 as_b96 Eb_b96 f_b96 rs_b96 (e2_orG 231 83 11 4 2147483648 2147483668 as_b95 Eb_b95 f_b95 rs_b95 (e2_orG 231 83 11 4 2147483648 2147483668 as_b94 Eb_b94 f_b94 rs_b94 (e2_cal S_b120 I_b120 4000 1))))))))))))))))))))) (e2_fin rs_b120) e2x_230 (e2_bpL cl_b120_28) (e2_cutA cl_b120_28) 4000 (e2_seek e2x_230 55) al_b120_28 [] E_b120_28 h_b120_28 = true := by decide +kernel
set_option maxRecDepth 1000000 in
theorem ci_b120_28 : e2_idl 5 (al_b120_28.set 3 (9, 0, 0)) = true := by decide +kernel
set_option maxRecDepth 1000000 in
theorem cj_b120_28 : e2_idh 5 8 h_b120_28 = true := by decide +kernel
set_option maxRecDepth 1000000 in
theorem ck_b120_u120 : e2_cutsB (e2_orG 231 83 11 4 2147483648 2147483668 as_b113 Eb_b113 f_b113 rs_b113 (e2_orG 231 83 11 4 2147483648 2147483668 as_b112 Eb_b112 f_b112 rs_b112 (e2_orG 231 83 11 4 2147483648 2147483668 as_b111 Eb_b111 f_b111 rs_b111 (e2_orG 231 83 11 4 2147483648 2147483668 as_b110 Eb_b110 f_b110 rs_b110 (e2_orG 231 83 11 4 2147483648 2147483668 as_b109 Eb_b109 f_b109 rs_b109 (e2_orG 231 83 11 4 2147483648 2147483668 as_b108 Eb_b108 f_b108 rs_b108 (e2_orG 231 83 11 4 2147483648 2147483668 as_b107 Eb_b107 f_b107 rs_b107 (e2_orG 231 83 11 4 2147483648 2147483668 as_b106 Eb_b106 f_b106 rs_b106 (e2_orG 231 83 11 4 2147483648 2147483668 as_b105 Eb_b105 f_b105 rs_b105 (e2_orG 231 83 11 4 2147483648 2147483668 as_b104 Eb_b104 f_b104 rs_b104 (e2_orG 231 83 11 4 2147483648 2147483668 as_b103 Eb_b103 f_b103 rs_b103 (e2_orG 231 83 11 4 2147483648 2147483668 as_b102 Eb_b102 f_b102 rs_b102 (e2_orG 231 83 11 4 2147483648 2147483668 as_b101 Eb_b101 f_b101 rs_b101 (e2_orG 231 83 11 4 2147483648 2147483668 as_b100 Eb_b100 f_b100 rs_b100 (e2_orG 231 83 11 4 2147483648 2147483668 as_b99 Eb_b99 f_b99 rs_b99 (e2_orG 231 83 11 4 2147483648 2147483668 as_b98 Eb_b98 f_b98 rs_b98 (e2_orG 231 83 11 4 2147483648 2147483668 as_b97 Eb_b97 f_b97 rs_b97 (e2_orG 231 83 11 4 2147483648 2147483668 as_b96 Eb_b96 f_b96 rs_b96 (e2_orG 231 83 11 4 2147483648 2147483668 as_b95 Eb_b95 f_b95 rs_b95 (e2_orG 231 83 11 4 2147483648 2147483668 as_b94 Eb_b94 f_b94 rs_b94 (e2_cal S_b120 I_b120 4000 1))))))))))))))))))))) (e2_fin rs_b120) e2x_230 120 4000 cu_b120_120 = true := by decide +kernel
set_option maxRecDepth 1000000 in
theorem cs_b120 (hen : en_ok) (l : Launch) : e2_smOk l 5 s_b120 := by
  refine e2_conC (H := 4) (C := evd_230) (call := (e2_orG 231 83 11 4 2147483648 2147483668 as_b113 Eb_b113 f_b113 rs_b113 (e2_orG 231 83 11 4 2147483648 2147483668 as_b112 Eb_b112 f_b112 rs_b112 (e2_orG 231 83 11 4 2147483648 2147483668 as_b111 Eb_b111 f_b111 rs_b111 (e2_orG 231 83 11 4 2147483648 2147483668 as_b110 Eb_b110 f_b110 rs_b110 (e2_orG 231 83 11 4 2147483648 2147483668 as_b109 Eb_b109 f_b109 rs_b109 (e2_orG 231 83 11 4 2147483648 2147483668 as_b108 Eb_b108 f_b108 rs_b108 (e2_orG 231 83 11 4 2147483648 2147483668 as_b107 Eb_b107 f_b107 rs_b107 (e2_orG 231 83 11 4 2147483648 2147483668 as_b106 Eb_b106 f_b106 rs_b106 (e2_orG 231 83 11 4 2147483648 2147483668 as_b105 Eb_b105 f_b105 rs_b105 (e2_orG 231 83 11 4 2147483648 2147483668 as_b104 Eb_b104 f_b104 rs_b104 (e2_orG 231 83 11 4 2147483648 2147483668 as_b103 Eb_b103 f_b103 rs_b103 (e2_orG 231 83 11 4 2147483648 2147483668 as_b102 Eb_b102 f_b102 rs_b102 (e2_orG 231 83 11 4 2147483648 2147483668 as_b101 Eb_b101 f_b101 rs_b101 (e2_orG 231 83 11 4 2147483648 2147483668 as_b100 Eb_b100 f_b100 rs_b100 (e2_orG 231 83 11 4 2147483648 2147483668 as_b99 Eb_b99 f_b99 rs_b99 (e2_orG 231 83 11 4 2147483648 2147483668 as_b98 Eb_b98 f_b98 rs_b98 (e2_orG 231 83 11 4 2147483648 2147483668 as_b97 Eb_b97 f_b97 rs_b97 (e2_orG 231 83 11 4 2147483648 2147483668 as_b96 Eb_b96 f_b96 rs_b96 (e2_orG 231 83 11 4 2147483648 2147483668 as_b95 Eb_b95 f_b95 rs_b95 (e2_orG 231 83 11 4 2147483648 2147483668 as_b94 Eb_b94 f_b94 rs_b94 (e2_cal S_b120 I_b120 4000 1)))))))))))))))))))))) ei_230 (fun d hd => (e2_orG_ok (k0 := 231) (a := 83) (j := 11) (n := 4) (lo := 2147483648) (hi := 2147483668) (as0 := as_b113) (Eb := Eb_b113) (f := f_b113) (res := rs_b113) (e2_orG_ok (k0 := 231) (a := 83) (j := 11) (n := 4) (lo := 2147483648) (hi := 2147483668) (as0 := as_b112) (Eb := Eb_b112) (f := f_b112) (res := rs_b112) (e2_orG_ok (k0 := 231) (a := 83) (j := 11) (n := 4) (lo := 2147483648) (hi := 2147483668) (as0 := as_b111) (Eb := Eb_b111) (f := f_b111) (res := rs_b111) (e2_orG_ok (k0 := 231) (a := 83) (j := 11) (n := 4) (lo := 2147483648) (hi := 2147483668) (as0 := as_b110) (Eb := Eb_b110) (f := f_b110) (res := rs_b110) (e2_orG_ok (k0 := 231) (a := 83) (j := 11) (n := 4) (lo := 2147483648) (hi := 2147483668) (as0 := as_b109) (Eb := Eb_b109) (f := f_b109) (res := rs_b109) (e2_orG_ok (k0 := 231) (a := 83) (j := 11) (n := 4) (lo := 2147483648) (hi := 2147483668) (as0 := as_b108) (Eb := Eb_b108) (f := f_b108) (res := rs_b108) (e2_orG_ok (k0 := 231) (a := 83) (j := 11) (n := 4) (lo := 2147483648) (hi := 2147483668) (as0 := as_b107) (Eb := Eb_b107) (f := f_b107) (res := rs_b107) (e2_orG_ok (k0 := 231) (a := 83) (j := 11) (n := 4) (lo := 2147483648) (hi := 2147483668) (as0 := as_b106) (Eb := Eb_b106) (f := f_b106) (res := rs_b106) (e2_orG_ok (k0 := 231) (a := 83) (j := 11) (n := 4) (lo := 2147483648) (hi := 2147483668) (as0 := as_b105) (Eb := Eb_b105) (f := f_b105) (res := rs_b105) (e2_orG_ok (k0 := 231) (a := 83) (j := 11) (n := 4) (lo := 2147483648) (hi := 2147483668) (as0 := as_b104) (Eb := Eb_b104) (f := f_b104) (res := rs_b104) (e2_orG_ok (k0 := 231) (a := 83) (j := 11) (n := 4) (lo := 2147483648) (hi := 2147483668) (as0 := as_b103) (Eb := Eb_b103) (f := f_b103) (res := rs_b103) (e2_orG_ok (k0 := 231) (a := 83) (j := 11) (n := 4) (lo := 2147483648) (hi := 2147483668) (as0 := as_b102) (Eb := Eb_b102) (f := f_b102) (res := rs_b102) (e2_orG_ok (k0 := 231) (a := 83) (j := 11) (n := 4) (lo := 2147483648) (hi := 2147483668) (as0 := as_b101) (Eb := Eb_b101) (f := f_b101) (res := rs_b101) (e2_orG_ok (k0 := 231) (a := 83) (j := 11) (n := 4) (lo := 2147483648) (hi := 2147483668) (as0 := as_b100) (Eb := Eb_b100) (f := f_b100) (res := rs_b100) (e2_orG_ok (k0 := 231) (a := 83) (j := 11) (n := 4) (lo := 2147483648) (hi := 2147483668) (as0 := as_b99) (Eb := Eb_b99) (f := f_b99) (res := rs_b99) (e2_orG_ok (k0 := 231) (a := 83) (j := 11) (n := 4) (lo := 2147483648) (hi := 2147483668) (as0 := as_b98) (Eb := Eb_b98) (f := f_b98) (res := rs_b98) (e2_orG_ok (k0 := 231) (a := 83) (j := 11) (n := 4) (lo := 2147483648) (hi := 2147483668) (as0 := as_b97) (Eb := Eb_b97) (f := f_b97) (res := rs_b97) (e2_orG_ok (k0 := 231) (a := 83) (j := 11) (n := 4) (lo := 2147483648) (hi := 2147483668) (as0 := as_b96) (Eb := Eb_b96) (f := f_b96) (res := rs_b96) (e2_orG_ok (k0 := 231) (a := 83) (j := 11) (n := 4) (lo := 2147483648) (hi := 2147483668) (as0 := as_b95) (Eb := Eb_b95) (f := f_b95) (res := rs_b95) (e2_orG_ok (k0 := 231) (a := 83) (j := 11) (n := 4) (lo := 2147483648) (hi := 2147483668) (as0 := as_b94) (Eb := Eb_b94) (f := f_b94) (res := rs_b94) (e2_cal_ok hen (e2_fa (cs_b44 hen l) (e2_fa (cs_b45 hen l) (e2_fa (cs_b46 hen l) (e2_fa (cs_b47 hen l) (e2_fa (cs_b48 hen l) (e2_fa (cs_b49 hen l) (e2_fa (cs_b50 hen l) (e2_fa (cs_b51 hen l) (e2_fa (cs_b52 hen l) (e2_fa (cs_b53 hen l) (e2_fa (cs_b54 hen l) (e2_fa (cs_b55 hen l) (e2_fa (cs_b56 hen l) (e2_fa (cs_b57 hen l) (e2_fa (cs_b58 hen l) (e2_fa (cs_b59 hen l) (e2_fa (cs_b60 hen l) (e2_fa (cs_b61 hen l) (e2_fa (cs_b62 hen l) (e2_fa (cs_b63 hen l) e2_fz)))))))))))))))))))) (e2_fa ein_216 (e2_fa ein_217 (e2_fa ein_227 e2_fz))) 1 d (by omega)) rfl (by decide +kernel) (fun M hM => (cs_b94 hen l).2 M hM d (by omega)) (e2_okGB_ok cog_b94)) rfl (by decide +kernel) (fun M hM => (cs_b95 hen l).2 M hM d (by omega)) (e2_okGB_ok cog_b95)) rfl (by decide +kernel) (fun M hM => (cs_b96 hen l).2 M hM d (by omega)) (e2_okGB_ok cog_b96)) rfl (by decide +kernel) (fun M hM => (cs_b97 hen l).2 M hM d (by omega)) (e2_okGB_ok cog_b97)) rfl (by decide +kernel) (fun M hM => (cs_b98 hen l).2 M hM d (by omega)) (e2_okGB_ok cog_b98)) rfl (by decide +kernel) (fun M hM => (cs_b99 hen l).2 M hM d (by omega)) (e2_okGB_ok cog_b99)) rfl (by decide +kernel) (fun M hM => (cs_b100 hen l).2 M hM d (by omega)) (e2_okGB_ok cog_b100)) rfl (by decide +kernel) (fun M hM => (cs_b101 hen l).2 M hM d (by omega)) (e2_okGB_ok cog_b101)) rfl (by decide +kernel) (fun M hM => (cs_b102 hen l).2 M hM d (by omega)) (e2_okGB_ok cog_b102)) rfl (by decide +kernel) (fun M hM => (cs_b103 hen l).2 M hM d (by omega)) (e2_okGB_ok cog_b103)) rfl (by decide +kernel) (fun M hM => (cs_b104 hen l).2 M hM d (by omega)) (e2_okGB_ok cog_b104)) rfl (by decide +kernel) (fun M hM => (cs_b105 hen l).2 M hM d (by omega)) (e2_okGB_ok cog_b105)) rfl (by decide +kernel) (fun M hM => (cs_b106 hen l).2 M hM d (by omega)) (e2_okGB_ok cog_b106)) rfl (by decide +kernel) (fun M hM => (cs_b107 hen l).2 M hM d (by omega)) (e2_okGB_ok cog_b107)) rfl (by decide +kernel) (fun M hM => (cs_b108 hen l).2 M hM d (by omega)) (e2_okGB_ok cog_b108)) rfl (by decide +kernel) (fun M hM => (cs_b109 hen l).2 M hM d (by omega)) (e2_okGB_ok cog_b109)) rfl (by decide +kernel) (fun M hM => (cs_b110 hen l).2 M hM d (by omega)) (e2_okGB_ok cog_b110)) rfl (by decide +kernel) (fun M hM => (cs_b111 hen l).2 M hM d (by omega)) (e2_okGB_ok cog_b111)) rfl (by decide +kernel) (fun M hM => (cs_b112 hen l).2 M hM d (by omega)) (e2_okGB_ok cog_b112)) rfl (by decide +kernel) (fun M hM => (cs_b113 hen l).2 M hM d (by omega)) (e2_okGB_ok cog_b113))) (by decide) co_b120 fun M d _ hC hcall p e R s m args below meth c Q D cA A ads r0 ha hl0 => ?_
  have EN_120 := e2_cutS_ok (bp := 120) (cuts := cu_b120_120) (e2_cuts_len hl0 (by decide +kernel)) (e2_cuts_ok hen ha hcall (hC [76, 192, 195]) (X := e2x_230) ex2_230 (e2_cuts_len hl0 (by decide +kernel)) ck_b120_u120)
  have L_27 : e2_gdM M p l e R s m args below meth c Q D cA A ads r0 49 al_b120_27 [] E_b120_27 h_b120_27 := by
    refine e2_indD (u := 4) (j := 2) (lo := 2147483647) (hi := 2147483667) hl0 (by decide) rfl rfl rfl ci_b120_27 cj_b120_27 ?_
    intro r_27 k_27 hk_27 hp_27 hs_27 hn_27
    have hl_27 : r_27.length ≤ 5 := hs_27.len rfl
    have ha_27 := ha.ext hp_27
    have L_28 : e2_gdM M p l e R s m args below meth c Q D cA A ads r_27 55 al_b120_28 [] E_b120_28 h_b120_28 := by
      refine e2_indL (u := 5) (j := 3) (lo := 2147483648) (hi := 2147483657) (b := 5) (dd := 0) hl_27 (by decide) rfl rfl (Or.inr ⟨rfl, rfl⟩) rfl ci_b120_28 cj_b120_28 ?_
      intro r_28 k_28 hk_28 hp_28 hs_28 hn_28
      have hl_28 : r_28.length ≤ 6 := hs_28.len rfl
      have ha_28 := ha_27.ext hp_28
      exact e2_fromM hen ha_28 hcall (e2_cutA_ok (e2_fa (fun al st E h hc => (hn_27 al st E h hc).ext hp_28) (e2_fa (fun al st E h hc => hn_28 al st E h hc) e2_fz))) (hC [76, 192, 195]) (X := e2x_230) ex2_230 55 ck_b120_28
    have EN_28 := e2_entL (u := 5) (j := 3) (lo := 2147483648) (hi := 2147483657) hl_27 rfl rfl rfl ci_b120_28 cj_b120_28 L_28
    exact e2_fromM hen ha_27 hcall (e2_cutA_ok (e2_fa (fun al st E h hc => (EN_120 al st E h hc).ext hp_27) (e2_fa (fun al st E h hc => EN_28 al st E h hc) e2_fz))) (hC [76, 192, 195]) (X := e2x_230) ex2_230 49 ck_b120_27
  have EN_27 := e2_entL (u := 4) (j := 2) (lo := 2147483647) (hi := 2147483667) hl0 rfl rfl rfl ci_b120_27 cj_b120_27 L_27
  have L_26 : e2_gdM M p l e R s m args below meth c Q D cA A ads r0 2 al_b120_26 [] E_b120_26 h_b120_26 := by
    refine e2_indL (u := 4) (j := 2) (lo := 2147483648) (hi := 2147483657) (b := 4) (dd := 0) hl0 (by decide) rfl rfl (Or.inr ⟨rfl, rfl⟩) rfl ci_b120_26 cj_b120_26 ?_
    intro r_26 k_26 hk_26 hp_26 hs_26 hn_26
    have hl_26 : r_26.length ≤ 5 := hs_26.len rfl
    have ha_26 := ha.ext hp_26
    exact e2_fromM hen ha_26 hcall (e2_cutA_ok (e2_fa (fun al st E h hc => hn_26 al st E h hc) (e2_fa (fun al st E h hc => (EN_27 al st E h hc).ext hp_26) e2_fz))) (hC [76, 192, 195]) (X := e2x_230) ex2_230 2 ck_b120_26
  have EN_26 := e2_entL (u := 4) (j := 2) (lo := 2147483648) (hi := 2147483657) hl0 rfl rfl rfl ci_b120_26 cj_b120_26 L_26
  exact e2_from hen ha hcall (e2_cutA_ok (e2_fa (fun al st E h hc => EN_26 al st E h hc) e2_fz)) (hC [76, 192, 195]) (X := e2x_230) ex2_230 0 ck_b120_e
/-! b121 X10_read -/
def as_b121 : List ev_V := [(2, 83, 0), (11, 0, 4294967295)]
def E_b121 : e2_E := [(2147483648, 2147583648, 0, 0), (2147483655, 2147483655, 1, 0), (2147483648, 2147483688, 2, 0), (2147483648, 2147483688, 3, 0)]
def bn1425 : e2_Q7 := (bn924, bn457)
def bn1426 : e2_Q8 := (bn477, bn1425)
noncomputable def f_b121 : ev_H := (bn1426 : e2_Q8)
noncomputable def q_b121_0 : ev_H := (bn1426 : e2_Q8)
noncomputable def rs_b121 : e2_Rs := [((11, 2147483647, 2147483668), q_b121_0)]
noncomputable def s_b121 : e2_Sm := (230, as_b121, E_b121, f_b121, rs_b121)
noncomputable def S_b121 : List e2_Sm := [s_b44, s_b45, s_b46, s_b47, s_b48, s_b49, s_b50, s_b51, s_b52, s_b53, s_b54, s_b55, s_b56, s_b57, s_b58, s_b59, s_b60, s_b61, s_b62, s_b63]
noncomputable def I_b121 : List e2_In := [(216, 1, e2x_216), (217, 1, e2x_217), (227, 2, e2x_227)]
set_option maxRecDepth 1000000 in
theorem co_b121 : e2_okSB E_b121.length as_b121 f_b121 rs_b121 = true := by decide +kernel
def al_b121_26 : List ev_V := [(2, 83, 0), (11, 0, 4294967295), (1, 4, 4294967296), (9, 0, 0), (9, 0, 0)]
def E_b121_26 : e2_E := [(2147483648, 2147583648, 0, 0), (2147483655, 2147483655, 1, 0), (2147483648, 2147483688, 2, 0), (2147483648, 2147483688, 3, 0), (2147483648, 2147483657, 4, 0)]
noncomputable def h_b121_26 : ev_H := (bn1426 : e2_Q8)
def al_b121_27 : List ev_V := [(2, 83, 0), (11, 0, 4294967295), (1, 4, 4294967296), (9, 0, 0), (9, 0, 0)]
def E_b121_27 : e2_E := [(2147483648, 2147583648, 0, 0), (2147483655, 2147483655, 1, 0), (2147483648, 2147483688, 2, 0), (2147483648, 2147483688, 3, 0), (2147483647, 2147483667, 4, 0)]
noncomputable def h_b121_27 : ev_H := (bn1426 : e2_Q8)
def al_b121_28 : List ev_V := [(2, 83, 0), (11, 0, 4294967295), (1, 4, 4294967296), (1, 5, 4294967296), (9, 0, 0)]
def E_b121_28 : e2_E := [(2147483648, 2147583648, 0, 0), (2147483655, 2147483655, 1, 0), (2147483648, 2147483688, 2, 0), (2147483648, 2147483688, 3, 0), (2147483648, 2147483667, 4, 0), (2147483648, 2147483657, 5, 0)]
noncomputable def h_b121_28 : ev_H := (bn1426 : e2_Q8)
def bn1427 : e2_Q7 := (bn924, bn1038)
def bn1428 : e2_Q8 := (bn477, bn1427)
noncomputable def h_b121_0 : ev_H := (bn1428 : e2_Q8)
def bn1429 : e2_Q7 := (bn924, bn1050)
def bn1430 : e2_Q8 := (bn477, bn1429)
noncomputable def h_b121_1 : ev_H := (bn1430 : e2_Q8)
def bn1431 : e2_Q7 := (bn924, bn1058)
def bn1432 : e2_Q8 := (bn477, bn1431)
noncomputable def h_b121_2 : ev_H := (bn1432 : e2_Q8)
def bn1433 : e2_Q7 := (bn924, bn1066)
def bn1434 : e2_Q8 := (bn477, bn1433)
noncomputable def h_b121_3 : ev_H := (bn1434 : e2_Q8)
def bn1435 : e2_Q7 := (bn924, bn1074)
def bn1436 : e2_Q8 := (bn477, bn1435)
noncomputable def h_b121_4 : ev_H := (bn1436 : e2_Q8)
def bn1437 : e2_Q7 := (bn924, bn1082)
def bn1438 : e2_Q8 := (bn477, bn1437)
noncomputable def h_b121_5 : ev_H := (bn1438 : e2_Q8)
def bn1439 : e2_Q7 := (bn924, bn1090)
def bn1440 : e2_Q8 := (bn477, bn1439)
noncomputable def h_b121_6 : ev_H := (bn1440 : e2_Q8)
def bn1441 : e2_Q7 := (bn924, bn1098)
def bn1442 : e2_Q8 := (bn477, bn1441)
noncomputable def h_b121_7 : ev_H := (bn1442 : e2_Q8)
def bn1443 : e2_Q7 := (bn924, bn1106)
def bn1444 : e2_Q8 := (bn477, bn1443)
noncomputable def h_b121_8 : ev_H := (bn1444 : e2_Q8)
def bn1445 : e2_Q7 := (bn924, bn1114)
def bn1446 : e2_Q8 := (bn477, bn1445)
noncomputable def h_b121_9 : ev_H := (bn1446 : e2_Q8)
def bn1447 : e2_Q7 := (bn924, bn1122)
def bn1448 : e2_Q8 := (bn477, bn1447)
noncomputable def h_b121_10 : ev_H := (bn1448 : e2_Q8)
def bn1449 : e2_Q7 := (bn924, bn1130)
def bn1450 : e2_Q8 := (bn477, bn1449)
noncomputable def h_b121_11 : ev_H := (bn1450 : e2_Q8)
def bn1451 : e2_Q7 := (bn924, bn1138)
def bn1452 : e2_Q8 := (bn477, bn1451)
noncomputable def h_b121_12 : ev_H := (bn1452 : e2_Q8)
def bn1453 : e2_Q7 := (bn924, bn1146)
def bn1454 : e2_Q8 := (bn477, bn1453)
noncomputable def h_b121_13 : ev_H := (bn1454 : e2_Q8)
def bn1455 : e2_Q7 := (bn924, bn1154)
def bn1456 : e2_Q8 := (bn477, bn1455)
noncomputable def h_b121_14 : ev_H := (bn1456 : e2_Q8)
def bn1457 : e2_Q7 := (bn924, bn1162)
def bn1458 : e2_Q8 := (bn477, bn1457)
noncomputable def h_b121_15 : ev_H := (bn1458 : e2_Q8)
def bn1459 : e2_Q7 := (bn924, bn1170)
def bn1460 : e2_Q8 := (bn477, bn1459)
noncomputable def h_b121_16 : ev_H := (bn1460 : e2_Q8)
def bn1461 : e2_Q7 := (bn924, bn1178)
def bn1462 : e2_Q8 := (bn477, bn1461)
noncomputable def h_b121_17 : ev_H := (bn1462 : e2_Q8)
def bn1463 : e2_Q7 := (bn924, bn1186)
def bn1464 : e2_Q8 := (bn477, bn1463)
noncomputable def h_b121_18 : ev_H := (bn1464 : e2_Q8)
def bn1465 : e2_Q7 := (bn924, bn1194)
def bn1466 : e2_Q8 := (bn477, bn1465)
noncomputable def h_b121_19 : ev_H := (bn1466 : e2_Q8)
noncomputable def h_b121_20 : ev_H := (bn1426 : e2_Q8)
def bn1467 : e2_Q7 := (bn924, bn1202)
def bn1468 : e2_Q8 := (bn477, bn1467)
noncomputable def h_b121_21 : ev_H := (bn1468 : e2_Q8)
noncomputable def h_b121_22 : ev_H := (bn1468 : e2_Q8)
noncomputable def h_b121_23 : ev_H := (bn1468 : e2_Q8)
noncomputable def h_b121_24 : ev_H := (bn1468 : e2_Q8)
noncomputable def h_b121_25 : ev_H := (bn1468 : e2_Q8)
noncomputable def cu_b121_120 : List e2_Cu := [([(2, 83, 0), (11, 0, 4294967295), (0, 0, 0), (0, 8, 0), (9, 0, 0)], [(2147483648, 2147583648, 0, 0), (2147483655, 2147483655, 1, 0), (2147483648, 2147483688, 2, 0), (2147483648, 2147483688, 3, 0)], h_b121_0),
  ([(2, 83, 0), (11, 0, 4294967295), (0, 1, 0), (11, 2147483648, 2147483656), (11, 2147483647, 2147483654)], [(2147483648, 2147583648, 0, 0), (2147483655, 2147483655, 1, 0), (2147483648, 2147483688, 2, 0), (2147483648, 2147483688, 3, 0)], h_b121_1),
  ([(2, 83, 0), (11, 0, 4294967295), (0, 2, 0), (11, 2147483648, 2147483656), (11, 2147483647, 2147483654)], [(2147483648, 2147583648, 0, 0), (2147483655, 2147483655, 1, 0), (2147483648, 2147483688, 2, 0), (2147483648, 2147483688, 3, 0)], h_b121_2),
  ([(2, 83, 0), (11, 0, 4294967295), (0, 3, 0), (11, 2147483648, 2147483656), (11, 2147483647, 2147483654)], [(2147483648, 2147583648, 0, 0), (2147483655, 2147483655, 1, 0), (2147483648, 2147483688, 2, 0), (2147483648, 2147483688, 3, 0)], h_b121_3),
  ([(2, 83, 0), (11, 0, 4294967295), (0, 4, 0), (11, 2147483648, 2147483656), (11, 2147483647, 2147483654)], [(2147483648, 2147583648, 0, 0), (2147483655, 2147483655, 1, 0), (2147483648, 2147483688, 2, 0), (2147483648, 2147483688, 3, 0)], h_b121_4),
  ([(2, 83, 0), (11, 0, 4294967295), (0, 5, 0), (11, 2147483648, 2147483656), (11, 2147483647, 2147483654)], [(2147483648, 2147583648, 0, 0), (2147483655, 2147483655, 1, 0), (2147483648, 2147483688, 2, 0), (2147483648, 2147483688, 3, 0)], h_b121_5),
  ([(2, 83, 0), (11, 0, 4294967295), (0, 6, 0), (11, 2147483648, 2147483656), (11, 2147483647, 2147483654)], [(2147483648, 2147583648, 0, 0), (2147483655, 2147483655, 1, 0), (2147483648, 2147483688, 2, 0), (2147483648, 2147483688, 3, 0)], h_b121_6),
  ([(2, 83, 0), (11, 0, 4294967295), (0, 7, 0), (11, 2147483648, 2147483656), (11, 2147483647, 2147483654)], [(2147483648, 2147583648, 0, 0), (2147483655, 2147483655, 1, 0), (2147483648, 2147483688, 2, 0), (2147483648, 2147483688, 3, 0)], h_b121_7),
  ([(2, 83, 0), (11, 0, 4294967295), (0, 8, 0), (11, 2147483648, 2147483656), (11, 2147483647, 2147483654)], [(2147483648, 2147583648, 0, 0), (2147483655, 2147483655, 1, 0), (2147483648, 2147483688, 2, 0), (2147483648, 2147483688, 3, 0)], h_b121_8),
  ([(2, 83, 0), (11, 0, 4294967295), (0, 9, 0), (11, 2147483648, 2147483656), (11, 2147483647, 2147483654)], [(2147483648, 2147583648, 0, 0), (2147483655, 2147483655, 1, 0), (2147483648, 2147483688, 2, 0), (2147483648, 2147483688, 3, 0)], h_b121_9),
  ([(2, 83, 0), (11, 0, 4294967295), (0, 10, 0), (11, 2147483648, 2147483656), (11, 2147483647, 2147483654)], [(2147483648, 2147583648, 0, 0), (2147483655, 2147483655, 1, 0), (2147483648, 2147483688, 2, 0), (2147483648, 2147483688, 3, 0)], h_b121_10),
  ([(2, 83, 0), (11, 0, 4294967295), (0, 11, 0), (11, 2147483648, 2147483656), (11, 2147483647, 2147483654)], [(2147483648, 2147583648, 0, 0), (2147483655, 2147483655, 1, 0), (2147483648, 2147483688, 2, 0), (2147483648, 2147483688, 3, 0)], h_b121_11),
  ([(2, 83, 0), (11, 0, 4294967295), (0, 12, 0), (11, 2147483648, 2147483656), (11, 2147483647, 2147483654)], [(2147483648, 2147583648, 0, 0), (2147483655, 2147483655, 1, 0), (2147483648, 2147483688, 2, 0), (2147483648, 2147483688, 3, 0)], h_b121_12),
  ([(2, 83, 0), (11, 0, 4294967295), (0, 13, 0), (11, 2147483648, 2147483656), (11, 2147483647, 2147483654)], [(2147483648, 2147583648, 0, 0), (2147483655, 2147483655, 1, 0), (2147483648, 2147483688, 2, 0), (2147483648, 2147483688, 3, 0)], h_b121_13),
  ([(2, 83, 0), (11, 0, 4294967295), (0, 14, 0), (11, 2147483648, 2147483656), (11, 2147483647, 2147483654)], [(2147483648, 2147583648, 0, 0), (2147483655, 2147483655, 1, 0), (2147483648, 2147483688, 2, 0), (2147483648, 2147483688, 3, 0)], h_b121_14),
  ([(2, 83, 0), (11, 0, 4294967295), (0, 15, 0), (11, 2147483648, 2147483656), (11, 2147483647, 2147483654)], [(2147483648, 2147583648, 0, 0), (2147483655, 2147483655, 1, 0), (2147483648, 2147483688, 2, 0), (2147483648, 2147483688, 3, 0)], h_b121_15),
  ([(2, 83, 0), (11, 0, 4294967295), (0, 16, 0), (11, 2147483648, 2147483656), (11, 2147483647, 2147483654)], [(2147483648, 2147583648, 0, 0), (2147483655, 2147483655, 1, 0), (2147483648, 2147483688, 2, 0), (2147483648, 2147483688, 3, 0)], h_b121_16),
  ([(2, 83, 0), (11, 0, 4294967295), (0, 17, 0), (11, 2147483648, 2147483656), (11, 2147483647, 2147483654)], [(2147483648, 2147583648, 0, 0), (2147483655, 2147483655, 1, 0), (2147483648, 2147483688, 2, 0), (2147483648, 2147483688, 3, 0)], h_b121_17),
  ([(2, 83, 0), (11, 0, 4294967295), (0, 18, 0), (11, 2147483648, 2147483656), (11, 2147483647, 2147483654)], [(2147483648, 2147583648, 0, 0), (2147483655, 2147483655, 1, 0), (2147483648, 2147483688, 2, 0), (2147483648, 2147483688, 3, 0)], h_b121_18),
  ([(2, 83, 0), (11, 0, 4294967295), (0, 19, 0), (11, 2147483648, 2147483656), (11, 2147483647, 2147483654)], [(2147483648, 2147583648, 0, 0), (2147483655, 2147483655, 1, 0), (2147483648, 2147483688, 2, 0), (2147483648, 2147483688, 3, 0)], h_b121_19),
  ([(2, 83, 0), (11, 0, 4294967295), (0, 20, 0), (11, 2147483648, 2147483656), (11, 2147483647, 2147483654)], [(2147483648, 2147583648, 0, 0), (2147483655, 2147483655, 1, 0), (2147483648, 2147483688, 2, 0), (2147483648, 2147483688, 3, 0)], h_b121_20),
  ([(2, 83, 0), (11, 0, 4294967295), (0, 21, 0), (11, 2147483648, 2147483654), (11, 2147483648, 2147483654)], [(2147483648, 2147583648, 0, 0), (2147483655, 2147483655, 1, 0), (2147483648, 2147483688, 2, 0), (2147483648, 2147483688, 3, 0)], h_b121_21),
  ([(2, 83, 0), (11, 0, 4294967295), (0, 22, 0), (11, 2147483648, 2147483654), (11, 2147483648, 2147483654)], [(2147483648, 2147583648, 0, 0), (2147483655, 2147483655, 1, 0), (2147483648, 2147483688, 2, 0), (2147483648, 2147483688, 3, 0)], h_b121_22),
  ([(2, 83, 0), (11, 0, 4294967295), (0, 23, 0), (11, 2147483648, 2147483654), (11, 2147483648, 2147483654)], [(2147483648, 2147583648, 0, 0), (2147483655, 2147483655, 1, 0), (2147483648, 2147483688, 2, 0), (2147483648, 2147483688, 3, 0)], h_b121_23),
  ([(2, 83, 0), (11, 0, 4294967295), (0, 24, 0), (11, 2147483648, 2147483654), (11, 2147483648, 2147483654)], [(2147483648, 2147583648, 0, 0), (2147483655, 2147483655, 1, 0), (2147483648, 2147483688, 2, 0), (2147483648, 2147483688, 3, 0)], h_b121_24),
  ([(2, 83, 0), (11, 0, 4294967295), (0, 25, 0), (11, 2147483648, 2147483654), (11, 2147483648, 2147483654)], [(2147483648, 2147583648, 0, 0), (2147483655, 2147483655, 1, 0), (2147483648, 2147483688, 2, 0), (2147483648, 2147483688, 3, 0)], h_b121_25)]
noncomputable def cl_b121_e : List (Nat × e2_S) := [(2, e2_cutL (al_b121_26.set 2 (11, 2147483648, 2147483657)) 4 (E_b121_26.take 4) h_b121_26)]
set_option maxRecDepth 1000000 in
theorem ck_b121_e : e2_run (e2_orG 231 83 11 4 2147483648 2147483668 as_b113 Eb_b113 f_b113 rs_b113 (e2_orG 231 83 11 4 2147483648 2147483668 as_b112 Eb_b112 f_b112 rs_b112 (e2_orG 231 83 11 4 2147483648 2147483668 as_b111 Eb_b111 f_b111 rs_b111 (e2_orG 231 83 11 4 2147483648 2147483668 as_b110 Eb_b110 f_b110 rs_b110 (e2_orG 231 83 11 4 2147483648 2147483668 as_b109 Eb_b109 f_b109 rs_b109 (e2_orG 231 83 11 4 2147483648 2147483668 as_b108 Eb_b108 f_b108 rs_b108 (e2_orG 231 83 11 4 2147483648 2147483668 as_b107 Eb_b107 f_b107 rs_b107 (e2_orG 231 83 11 4 2147483648 2147483668 as_b106 Eb_b106 f_b106 rs_b106 (e2_orG 231 83 11 4 2147483648 2147483668 as_b105 Eb_b105 f_b105 rs_b105 (e2_orG 231 83 11 4 2147483648 2147483668 as_b104 Eb_b104 f_b104 rs_b104 (e2_orG 231 83 11 4 2147483648 2147483668 as_b103 Eb_b103 f_b103 rs_b103 (e2_orG 231 83 11 4 2147483648 2147483668 as_b102 Eb_b102 f_b102 rs_b102 (e2_orG 231 83 11 4 2147483648 2147483668 as_b101 Eb_b101 f_b101 rs_b101 (e2_orG 231 83 11 4 2147483648 2147483668 as_b100 Eb_b100 f_b100 rs_b100 (e2_orG 231 83 11 4 2147483648 2147483668 as_b99 Eb_b99 f_b99 rs_b99 (e2_orG 231 83 11 4 2147483648 2147483668 as_b98 Eb_b98 f_b98 rs_b98 (e2_orG 231 83 11 4 2147483648 2147483668 as_b97 Eb_b97 f_b97 rs_b97 (e2_orG 231 83 11 4 2147483648 2147483668 as_b96 Eb_b96 f_b96 rs_b96 (e2_orG 231 83 11 4 2147483648 2147483668 as_b95 Eb_b95 f_b95 rs_b95 (e2_orG 231 83 11 4 2147483648 2147483668 as_b94 Eb_b94 f_b94 rs_b94 (e2_cal S_b121 I_b121 4000 1))))))))))))))))))))) (e2_fin rs_b121) e2x_230 (e2_bpL cl_b121_e) (e2_cutA cl_b121_e) 4000 (e2_seek e2x_230 0) (e2_al 5 as_b121) [] E_b121 f_b121 = true := by decide +kernel
noncomputable def cl_b121_26 : List (Nat × e2_S) := [(2, e2_cutL (al_b121_26.set 2 (13, 12, 2147483657)) 4 (E_b121_26.take 4) h_b121_26),
  (49, e2_cutL (al_b121_27.set 2 (11, 2147483647, 2147483667)) 4 (E_b121_27.take 4) h_b121_27)]
set_option maxRecDepth 1000000 in
theorem ck_b121_26 : e2_runM (e2_orG 231 83 11 4 2147483648 2147483668 as_b113 Eb_b113 f_b113 rs_b113 (e2_orG 231 83 11 4 2147483648 2147483668 as_b112 Eb_b112 f_b112 rs_b112 (e2_orG 231 83 11 4 2147483648 2147483668 as_b111 Eb_b111 f_b111 rs_b111 (e2_orG 231 83 11 4 2147483648 2147483668 as_b110 Eb_b110 f_b110 rs_b110 (e2_orG 231 83 11 4 2147483648 2147483668 as_b109 Eb_b109 f_b109 rs_b109 (e2_orG 231 83 11 4 2147483648 2147483668 as_b108 Eb_b108 f_b108 rs_b108 (e2_orG 231 83 11 4 2147483648 2147483668 as_b107 Eb_b107 f_b107 rs_b107 (e2_orG 231 83 11 4 2147483648 2147483668 as_b106 Eb_b106 f_b106 rs_b106 (e2_orG 231 83 11 4 2147483648 2147483668 as_b105 Eb_b105 f_b105 rs_b105 (e2_orG 231 83 11 4 2147483648 2147483668 as_b104 Eb_b104 f_b104 rs_b104 (e2_orG 231 83 11 4 2147483648 2147483668 as_b103 Eb_b103 f_b103 rs_b103 (e2_orG 231 83 11 4 2147483648 2147483668 as_b102 Eb_b102 f_b102 rs_b102 (e2_orG 231 83 11 4 2147483648 2147483668 as_b101 Eb_b101 f_b101 rs_b101 (e2_orG 231 83 11 4 2147483648 2147483668 as_b100 Eb_b100 f_b100 rs_b100 (e2_orG 231 83 11 4 2147483648 2147483668 as_b99 Eb_b99 f_b99 rs_b99 (e2_orG 231 83 11 4 2147483648 2147483668 as_b98 Eb_b98 f_b98 rs_b98 (e2_orG 231 83 11 4 2147483648 2147483668 as_b97 Eb_b97 f_b97 rs_b97 (e2_orG 231 83 11 4 2147483648 2147483668 as_b96 Eb_b96 f_b96 rs_b96 (e2_orG 231 83 11 4 2147483648 2147483668 as_b95 Eb_b95 f_b95 rs_b95 (e2_orG 231 83 11 4 2147483648 2147483668 as_b94 Eb_b94 f_b94 rs_b94 (e2_cal S_b121 I_b121 4000 1))))))))))))))))))))) (e2_fin rs_b121) e2x_230 (e2_bpL cl_b121_26) (e2_cutA cl_b121_26) 4000 (e2_seek e2x_230 2) al_b121_26 [] E_b121_26 h_b121_26 = true := by decide +kernel
set_option maxRecDepth 1000000 in
theorem ci_b121_26 : e2_idl 4 (al_b121_26.set 2 (9, 0, 0)) = true := by decide +kernel
set_option maxRecDepth 1000000 in
theorem cj_b121_26 : e2_idh 4 8 h_b121_26 = true := by decide +kernel
noncomputable def cl_b121_27 : List (Nat × e2_S) := [(120, e2_cutS cu_b121_120),
  (55, e2_cutL (al_b121_28.set 3 (11, 2147483648, 2147483657)) 5 (E_b121_28.take 5) h_b121_28)]
set_option maxRecDepth 1000000 in
theorem ck_b121_27 : e2_runM (e2_orG 231 83 11 4 2147483648 2147483668 as_b113 Eb_b113 f_b113 rs_b113 (e2_orG 231 83 11 4 2147483648 2147483668 as_b112 Eb_b112 f_b112 rs_b112 (e2_orG 231 83 11 4 2147483648 2147483668 as_b111 Eb_b111 f_b111 rs_b111 (e2_orG 231 83 11 4 2147483648 2147483668 as_b110 Eb_b110 f_b110 rs_b110 (e2_orG 231 83 11 4 2147483648 2147483668 as_b109 Eb_b109 f_b109 rs_b109 (e2_orG 231 83 11 4 2147483648 2147483668 as_b108 Eb_b108 f_b108 rs_b108 (e2_orG 231 83 11 4 2147483648 2147483668 as_b107 Eb_b107 f_b107 rs_b107 (e2_orG 231 83 11 4 2147483648 2147483668 as_b106 Eb_b106 f_b106 rs_b106 (e2_orG 231 83 11 4 2147483648 2147483668 as_b105 Eb_b105 f_b105 rs_b105 (e2_orG 231 83 11 4 2147483648 2147483668 as_b104 Eb_b104 f_b104 rs_b104 (e2_orG 231 83 11 4 2147483648 2147483668 as_b103 Eb_b103 f_b103 rs_b103 (e2_orG 231 83 11 4 2147483648 2147483668 as_b102 Eb_b102 f_b102 rs_b102 (e2_orG 231 83 11 4 2147483648 2147483668 as_b101 Eb_b101 f_b101 rs_b101 (e2_orG 231 83 11 4 2147483648 2147483668 as_b100 Eb_b100 f_b100 rs_b100 (e2_orG 231 83 11 4 2147483648 2147483668 as_b99 Eb_b99 f_b99 rs_b99 (e2_orG 231 83 11 4 2147483648 2147483668 as_b98 Eb_b98 f_b98 rs_b98 (e2_orG 231 83 11 4 2147483648 2147483668 as_b97 Eb_b97 f_b97 rs_b97 (e2_orG 231 83 11 4 2147483648 2147483668 as_b96 Eb_b96 f_b96 rs_b96 (e2_orG 231 83 11 4 2147483648 2147483668 as_b95 Eb_b95 f_b95 rs_b95 (e2_orG 231 83 11 4 2147483648 2147483668 as_b94 Eb_b94 f_b94 rs_b94 (e2_cal S_b121 I_b121 4000 1))))))))))))))))))))) (e2_fin rs_b121) e2x_230 (e2_bpL cl_b121_27) (e2_cutA cl_b121_27) 4000 (e2_seek e2x_230 49) al_b121_27 [] E_b121_27 h_b121_27 = true := by decide +kernel
set_option maxRecDepth 1000000 in
theorem ci_b121_27 : e2_idl 4 (al_b121_27.set 2 (9, 0, 0)) = true := by decide +kernel
set_option maxRecDepth 1000000 in
theorem cj_b121_27 : e2_idh 4 8 h_b121_27 = true := by decide +kernel
noncomputable def cl_b121_28 : List (Nat × e2_S) := [(49, e2_cutL (al_b121_27.set 2 (12, 12, 2147483647)) 4 (E_b121_27.take 4) h_b121_27),
  (55, e2_cutL (al_b121_28.set 3 (13, 13, 2147483657)) 5 (E_b121_28.take 5) h_b121_28)]
set_option maxRecDepth 1000000 in
theorem ck_b121_28 : e2_runM (e2_orG 231 83 11 4 2147483648 2147483668 as_b113 Eb_b113 f_b113 rs_b113 (e2_orG 231 83 11 4 2147483648 2147483668 as_b112 Eb_b112 f_b112 rs_b112 (e2_orG 231 83 11 4 2147483648 2147483668 as_b111 Eb_b111 f_b111 rs_b111 (e2_orG 231 83 11 4 2147483648 2147483668 as_b110 Eb_b110 f_b110 rs_b110 (e2_orG 231 83 11 4 2147483648 2147483668 as_b109 Eb_b109 f_b109 rs_b109 (e2_orG 231 83 11 4 2147483648 2147483668 as_b108 Eb_b108 f_b108 rs_b108 (e2_orG 231 83 11 4 2147483648 2147483668 as_b107 Eb_b107 f_b107 rs_b107 (e2_orG 231 83 11 4 2147483648 2147483668 as_b106 Eb_b106 f_b106 rs_b106 (e2_orG 231 83 11 4 2147483648 2147483668 as_b105 Eb_b105 f_b105 rs_b105 (e2_orG 231 83 11 4 2147483648 2147483668 as_b104 Eb_b104 f_b104 rs_b104 (e2_orG 231 83 11 4 2147483648 2147483668 as_b103 Eb_b103 f_b103 rs_b103 (e2_orG 231 83 11 4 2147483648 2147483668 as_b102 Eb_b102 f_b102 rs_b102 (e2_orG 231 83 11 4 2147483648 2147483668 as_b101 Eb_b101 f_b101 rs_b101 (e2_orG 231 83 11 4 2147483648 2147483668 as_b100 Eb_b100 f_b100 rs_b100 (e2_orG 231 83 11 4 2147483648 2147483668 as_b99 Eb_b99 f_b99 rs_b99 (e2_orG 231 83 11 4 2147483648 2147483668 as_b98 Eb_b98 f_b98 rs_b98 (e2_orG 231 83 11 4 2147483648 2147483668 as_b97 Eb_b97 f_b97 rs_b97 (e2_orG 231 83 11 4 2147483648 2147483668 as_b96 Eb_b96 f_b96 rs_b96 (e2_orG 231 83 11 4 2147483648 2147483668 as_b95 Eb_b95 f_b95 rs_b95 (e2_orG 231 83 11 4 2147483648 2147483668 as_b94 Eb_b94 f_b94 rs_b94 (e2_cal S_b121 I_b121 4000 1))))))))))))))))))))) (e2_fin rs_b121) e2x_230 (e2_bpL cl_b121_28) (e2_cutA cl_b121_28) 4000 (e2_seek e2x_230 55) al_b121_28 [] E_b121_28 h_b121_28 = true := by decide +kernel
set_option maxRecDepth 1000000 in
theorem ci_b121_28 : e2_idl 5 (al_b121_28.set 3 (9, 0, 0)) = true := by decide +kernel
set_option maxRecDepth 1000000 in
theorem cj_b121_28 : e2_idh 5 8 h_b121_28 = true := by decide +kernel
set_option maxRecDepth 1000000 in
theorem ck_b121_u120 : e2_cutsB (e2_orG 231 83 11 4 2147483648 2147483668 as_b113 Eb_b113 f_b113 rs_b113 (e2_orG 231 83 11 4 2147483648 2147483668 as_b112 Eb_b112 f_b112 rs_b112 (e2_orG 231 83 11 4 2147483648 2147483668 as_b111 Eb_b111 f_b111 rs_b111 (e2_orG 231 83 11 4 2147483648 2147483668 as_b110 Eb_b110 f_b110 rs_b110 (e2_orG 231 83 11 4 2147483648 2147483668 as_b109 Eb_b109 f_b109 rs_b109 (e2_orG 231 83 11 4 2147483648 2147483668 as_b108 Eb_b108 f_b108 rs_b108 (e2_orG 231 83 11 4 2147483648 2147483668 as_b107 Eb_b107 f_b107 rs_b107 (e2_orG 231 83 11 4 2147483648 2147483668 as_b106 Eb_b106 f_b106 rs_b106 (e2_orG 231 83 11 4 2147483648 2147483668 as_b105 Eb_b105 f_b105 rs_b105 (e2_orG 231 83 11 4 2147483648 2147483668 as_b104 Eb_b104 f_b104 rs_b104 (e2_orG 231 83 11 4 2147483648 2147483668 as_b103 Eb_b103 f_b103 rs_b103 (e2_orG 231 83 11 4 2147483648 2147483668 as_b102 Eb_b102 f_b102 rs_b102 (e2_orG 231 83 11 4 2147483648 2147483668 as_b101 Eb_b101 f_b101 rs_b101 (e2_orG 231 83 11 4 2147483648 2147483668 as_b100 Eb_b100 f_b100 rs_b100 (e2_orG 231 83 11 4 2147483648 2147483668 as_b99 Eb_b99 f_b99 rs_b99 (e2_orG 231 83 11 4 2147483648 2147483668 as_b98 Eb_b98 f_b98 rs_b98 (e2_orG 231 83 11 4 2147483648 2147483668 as_b97 Eb_b97 f_b97 rs_b97 (e2_orG 231 83 11 4 2147483648 2147483668 as_b96 Eb_b96 f_b96 rs_b96 (e2_orG 231 83 11 4 2147483648 2147483668 as_b95 Eb_b95 f_b95 rs_b95 (e2_orG 231 83 11 4 2147483648 2147483668 as_b94 Eb_b94 f_b94 rs_b94 (e2_cal S_b121 I_b121 4000 1))))))))))))))))))))) (e2_fin rs_b121) e2x_230 120 4000 cu_b121_120 = true := by decide +kernel
set_option maxRecDepth 1000000 in
theorem cs_b121 (hen : en_ok) (l : Launch) : e2_smOk l 5 s_b121 := by
  refine e2_conC (H := 4) (C := evd_230) (call := (e2_orG 231 83 11 4 2147483648 2147483668 as_b113 Eb_b113 f_b113 rs_b113 (e2_orG 231 83 11 4 2147483648 2147483668 as_b112 Eb_b112 f_b112 rs_b112 (e2_orG 231 83 11 4 2147483648 2147483668 as_b111 Eb_b111 f_b111 rs_b111 (e2_orG 231 83 11 4 2147483648 2147483668 as_b110 Eb_b110 f_b110 rs_b110 (e2_orG 231 83 11 4 2147483648 2147483668 as_b109 Eb_b109 f_b109 rs_b109 (e2_orG 231 83 11 4 2147483648 2147483668 as_b108 Eb_b108 f_b108 rs_b108 (e2_orG 231 83 11 4 2147483648 2147483668 as_b107 Eb_b107 f_b107 rs_b107 (e2_orG 231 83 11 4 2147483648 2147483668 as_b106 Eb_b106 f_b106 rs_b106 (e2_orG 231 83 11 4 2147483648 2147483668 as_b105 Eb_b105 f_b105 rs_b105 (e2_orG 231 83 11 4 2147483648 2147483668 as_b104 Eb_b104 f_b104 rs_b104 (e2_orG 231 83 11 4 2147483648 2147483668 as_b103 Eb_b103 f_b103 rs_b103 (e2_orG 231 83 11 4 2147483648 2147483668 as_b102 Eb_b102 f_b102 rs_b102 (e2_orG 231 83 11 4 2147483648 2147483668 as_b101 Eb_b101 f_b101 rs_b101 (e2_orG 231 83 11 4 2147483648 2147483668 as_b100 Eb_b100 f_b100 rs_b100 (e2_orG 231 83 11 4 2147483648 2147483668 as_b99 Eb_b99 f_b99 rs_b99 (e2_orG 231 83 11 4 2147483648 2147483668 as_b98 Eb_b98 f_b98 rs_b98 (e2_orG 231 83 11 4 2147483648 2147483668 as_b97 Eb_b97 f_b97 rs_b97 (e2_orG 231 83 11 4 2147483648 2147483668 as_b96 Eb_b96 f_b96 rs_b96 (e2_orG 231 83 11 4 2147483648 2147483668 as_b95 Eb_b95 f_b95 rs_b95 (e2_orG 231 83 11 4 2147483648 2147483668 as_b94 Eb_b94 f_b94 rs_b94 (e2_cal S_b121 I_b121 4000 1)))))))))))))))))))))) ei_230 (fun d hd => (e2_orG_ok (k0 := 231) (a := 83) (j := 11) (n := 4) (lo := 2147483648) (hi := 2147483668) (as0 := as_b113) (Eb := Eb_b113) (f := f_b113) (res := rs_b113) (e2_orG_ok (k0 := 231) (a := 83) (j := 11) (n := 4) (lo := 2147483648) (hi := 2147483668) (as0 := as_b112) (Eb := Eb_b112) (f := f_b112) (res := rs_b112) (e2_orG_ok (k0 := 231) (a := 83) (j := 11) (n := 4) (lo := 2147483648) (hi := 2147483668) (as0 := as_b111) (Eb := Eb_b111) (f := f_b111) (res := rs_b111) (e2_orG_ok (k0 := 231) (a := 83) (j := 11) (n := 4) (lo := 2147483648) (hi := 2147483668) (as0 := as_b110) (Eb := Eb_b110) (f := f_b110) (res := rs_b110) (e2_orG_ok (k0 := 231) (a := 83) (j := 11) (n := 4) (lo := 2147483648) (hi := 2147483668) (as0 := as_b109) (Eb := Eb_b109) (f := f_b109) (res := rs_b109) (e2_orG_ok (k0 := 231) (a := 83) (j := 11) (n := 4) (lo := 2147483648) (hi := 2147483668) (as0 := as_b108) (Eb := Eb_b108) (f := f_b108) (res := rs_b108) (e2_orG_ok (k0 := 231) (a := 83) (j := 11) (n := 4) (lo := 2147483648) (hi := 2147483668) (as0 := as_b107) (Eb := Eb_b107) (f := f_b107) (res := rs_b107) (e2_orG_ok (k0 := 231) (a := 83) (j := 11) (n := 4) (lo := 2147483648) (hi := 2147483668) (as0 := as_b106) (Eb := Eb_b106) (f := f_b106) (res := rs_b106) (e2_orG_ok (k0 := 231) (a := 83) (j := 11) (n := 4) (lo := 2147483648) (hi := 2147483668) (as0 := as_b105) (Eb := Eb_b105) (f := f_b105) (res := rs_b105) (e2_orG_ok (k0 := 231) (a := 83) (j := 11) (n := 4) (lo := 2147483648) (hi := 2147483668) (as0 := as_b104) (Eb := Eb_b104) (f := f_b104) (res := rs_b104) (e2_orG_ok (k0 := 231) (a := 83) (j := 11) (n := 4) (lo := 2147483648) (hi := 2147483668) (as0 := as_b103) (Eb := Eb_b103) (f := f_b103) (res := rs_b103) (e2_orG_ok (k0 := 231) (a := 83) (j := 11) (n := 4) (lo := 2147483648) (hi := 2147483668) (as0 := as_b102) (Eb := Eb_b102) (f := f_b102) (res := rs_b102) (e2_orG_ok (k0 := 231) (a := 83) (j := 11) (n := 4) (lo := 2147483648) (hi := 2147483668) (as0 := as_b101) (Eb := Eb_b101) (f := f_b101) (res := rs_b101) (e2_orG_ok (k0 := 231) (a := 83) (j := 11) (n := 4) (lo := 2147483648) (hi := 2147483668) (as0 := as_b100) (Eb := Eb_b100) (f := f_b100) (res := rs_b100) (e2_orG_ok (k0 := 231) (a := 83) (j := 11) (n := 4) (lo := 2147483648) (hi := 2147483668) (as0 := as_b99) (Eb := Eb_b99) (f := f_b99) (res := rs_b99) (e2_orG_ok (k0 := 231) (a := 83) (j := 11) (n := 4) (lo := 2147483648) (hi := 2147483668) (as0 := as_b98) (Eb := Eb_b98) (f := f_b98) (res := rs_b98) (e2_orG_ok (k0 := 231) (a := 83) (j := 11) (n := 4) (lo := 2147483648) (hi := 2147483668) (as0 := as_b97) (Eb := Eb_b97) (f := f_b97) (res := rs_b97) (e2_orG_ok (k0 := 231) (a := 83) (j := 11) (n := 4) (lo := 2147483648) (hi := 2147483668) (as0 := as_b96) (Eb := Eb_b96) (f := f_b96) (res := rs_b96) (e2_orG_ok (k0 := 231) (a := 83) (j := 11) (n := 4) (lo := 2147483648) (hi := 2147483668) (as0 := as_b95) (Eb := Eb_b95) (f := f_b95) (res := rs_b95) (e2_orG_ok (k0 := 231) (a := 83) (j := 11) (n := 4) (lo := 2147483648) (hi := 2147483668) (as0 := as_b94) (Eb := Eb_b94) (f := f_b94) (res := rs_b94) (e2_cal_ok hen (e2_fa (cs_b44 hen l) (e2_fa (cs_b45 hen l) (e2_fa (cs_b46 hen l) (e2_fa (cs_b47 hen l) (e2_fa (cs_b48 hen l) (e2_fa (cs_b49 hen l) (e2_fa (cs_b50 hen l) (e2_fa (cs_b51 hen l) (e2_fa (cs_b52 hen l) (e2_fa (cs_b53 hen l) (e2_fa (cs_b54 hen l) (e2_fa (cs_b55 hen l) (e2_fa (cs_b56 hen l) (e2_fa (cs_b57 hen l) (e2_fa (cs_b58 hen l) (e2_fa (cs_b59 hen l) (e2_fa (cs_b60 hen l) (e2_fa (cs_b61 hen l) (e2_fa (cs_b62 hen l) (e2_fa (cs_b63 hen l) e2_fz)))))))))))))))))))) (e2_fa ein_216 (e2_fa ein_217 (e2_fa ein_227 e2_fz))) 1 d (by omega)) rfl (by decide +kernel) (fun M hM => (cs_b94 hen l).2 M hM d (by omega)) (e2_okGB_ok cog_b94)) rfl (by decide +kernel) (fun M hM => (cs_b95 hen l).2 M hM d (by omega)) (e2_okGB_ok cog_b95)) rfl (by decide +kernel) (fun M hM => (cs_b96 hen l).2 M hM d (by omega)) (e2_okGB_ok cog_b96)) rfl (by decide +kernel) (fun M hM => (cs_b97 hen l).2 M hM d (by omega)) (e2_okGB_ok cog_b97)) rfl (by decide +kernel) (fun M hM => (cs_b98 hen l).2 M hM d (by omega)) (e2_okGB_ok cog_b98)) rfl (by decide +kernel) (fun M hM => (cs_b99 hen l).2 M hM d (by omega)) (e2_okGB_ok cog_b99)) rfl (by decide +kernel) (fun M hM => (cs_b100 hen l).2 M hM d (by omega)) (e2_okGB_ok cog_b100)) rfl (by decide +kernel) (fun M hM => (cs_b101 hen l).2 M hM d (by omega)) (e2_okGB_ok cog_b101)) rfl (by decide +kernel) (fun M hM => (cs_b102 hen l).2 M hM d (by omega)) (e2_okGB_ok cog_b102)) rfl (by decide +kernel) (fun M hM => (cs_b103 hen l).2 M hM d (by omega)) (e2_okGB_ok cog_b103)) rfl (by decide +kernel) (fun M hM => (cs_b104 hen l).2 M hM d (by omega)) (e2_okGB_ok cog_b104)) rfl (by decide +kernel) (fun M hM => (cs_b105 hen l).2 M hM d (by omega)) (e2_okGB_ok cog_b105)) rfl (by decide +kernel) (fun M hM => (cs_b106 hen l).2 M hM d (by omega)) (e2_okGB_ok cog_b106)) rfl (by decide +kernel) (fun M hM => (cs_b107 hen l).2 M hM d (by omega)) (e2_okGB_ok cog_b107)) rfl (by decide +kernel) (fun M hM => (cs_b108 hen l).2 M hM d (by omega)) (e2_okGB_ok cog_b108)) rfl (by decide +kernel) (fun M hM => (cs_b109 hen l).2 M hM d (by omega)) (e2_okGB_ok cog_b109)) rfl (by decide +kernel) (fun M hM => (cs_b110 hen l).2 M hM d (by omega)) (e2_okGB_ok cog_b110)) rfl (by decide +kernel) (fun M hM => (cs_b111 hen l).2 M hM d (by omega)) (e2_okGB_ok cog_b111)) rfl (by decide +kernel) (fun M hM => (cs_b112 hen l).2 M hM d (by omega)) (e2_okGB_ok cog_b112)) rfl (by decide +kernel) (fun M hM => (cs_b113 hen l).2 M hM d (by omega)) (e2_okGB_ok cog_b113))) (by decide) co_b121 fun M d _ hC hcall p e R s m args below meth c Q D cA A ads r0 ha hl0 => ?_
  have EN_120 := e2_cutS_ok (bp := 120) (cuts := cu_b121_120) (e2_cuts_len hl0 (by decide +kernel)) (e2_cuts_ok hen ha hcall (hC [76, 192, 195]) (X := e2x_230) ex2_230 (e2_cuts_len hl0 (by decide +kernel)) ck_b121_u120)
  have L_27 : e2_gdM M p l e R s m args below meth c Q D cA A ads r0 49 al_b121_27 [] E_b121_27 h_b121_27 := by
    refine e2_indD (u := 4) (j := 2) (lo := 2147483647) (hi := 2147483667) hl0 (by decide) rfl rfl rfl ci_b121_27 cj_b121_27 ?_
    intro r_27 k_27 hk_27 hp_27 hs_27 hn_27
    have hl_27 : r_27.length ≤ 5 := hs_27.len rfl
    have ha_27 := ha.ext hp_27
    have L_28 : e2_gdM M p l e R s m args below meth c Q D cA A ads r_27 55 al_b121_28 [] E_b121_28 h_b121_28 := by
      refine e2_indL (u := 5) (j := 3) (lo := 2147483648) (hi := 2147483657) (b := 5) (dd := 0) hl_27 (by decide) rfl rfl (Or.inr ⟨rfl, rfl⟩) rfl ci_b121_28 cj_b121_28 ?_
      intro r_28 k_28 hk_28 hp_28 hs_28 hn_28
      have hl_28 : r_28.length ≤ 6 := hs_28.len rfl
      have ha_28 := ha_27.ext hp_28
      exact e2_fromM hen ha_28 hcall (e2_cutA_ok (e2_fa (fun al st E h hc => (hn_27 al st E h hc).ext hp_28) (e2_fa (fun al st E h hc => hn_28 al st E h hc) e2_fz))) (hC [76, 192, 195]) (X := e2x_230) ex2_230 55 ck_b121_28
    have EN_28 := e2_entL (u := 5) (j := 3) (lo := 2147483648) (hi := 2147483657) hl_27 rfl rfl rfl ci_b121_28 cj_b121_28 L_28
    exact e2_fromM hen ha_27 hcall (e2_cutA_ok (e2_fa (fun al st E h hc => (EN_120 al st E h hc).ext hp_27) (e2_fa (fun al st E h hc => EN_28 al st E h hc) e2_fz))) (hC [76, 192, 195]) (X := e2x_230) ex2_230 49 ck_b121_27
  have EN_27 := e2_entL (u := 4) (j := 2) (lo := 2147483647) (hi := 2147483667) hl0 rfl rfl rfl ci_b121_27 cj_b121_27 L_27
  have L_26 : e2_gdM M p l e R s m args below meth c Q D cA A ads r0 2 al_b121_26 [] E_b121_26 h_b121_26 := by
    refine e2_indL (u := 4) (j := 2) (lo := 2147483648) (hi := 2147483657) (b := 4) (dd := 0) hl0 (by decide) rfl rfl (Or.inr ⟨rfl, rfl⟩) rfl ci_b121_26 cj_b121_26 ?_
    intro r_26 k_26 hk_26 hp_26 hs_26 hn_26
    have hl_26 : r_26.length ≤ 5 := hs_26.len rfl
    have ha_26 := ha.ext hp_26
    exact e2_fromM hen ha_26 hcall (e2_cutA_ok (e2_fa (fun al st E h hc => hn_26 al st E h hc) (e2_fa (fun al st E h hc => (EN_27 al st E h hc).ext hp_26) e2_fz))) (hC [76, 192, 195]) (X := e2x_230) ex2_230 2 ck_b121_26
  have EN_26 := e2_entL (u := 4) (j := 2) (lo := 2147483648) (hi := 2147483657) hl0 rfl rfl rfl ci_b121_26 cj_b121_26 L_26
  exact e2_from hen ha hcall (e2_cutA_ok (e2_fa (fun al st E h hc => EN_26 al st E h hc) e2_fz)) (hC [76, 192, 195]) (X := e2x_230) ex2_230 0 ck_b121_e
/-! b122 X10_read -/
def as_b122 : List ev_V := [(2, 83, 0), (11, 0, 4294967295)]
def E_b122 : e2_E := [(2147483648, 2147583648, 0, 0), (2147483656, 2147483656, 1, 0), (2147483648, 2147483688, 2, 0), (2147483648, 2147483688, 3, 0)]
def bn1469 : e2_Q7 := (bn974, bn457)
def bn1470 : e2_Q8 := (bn477, bn1469)
noncomputable def f_b122 : ev_H := (bn1470 : e2_Q8)
noncomputable def q_b122_0 : ev_H := (bn1470 : e2_Q8)
noncomputable def rs_b122 : e2_Rs := [((11, 2147483647, 2147483668), q_b122_0)]
noncomputable def s_b122 : e2_Sm := (230, as_b122, E_b122, f_b122, rs_b122)
noncomputable def S_b122 : List e2_Sm := [s_b44, s_b45, s_b46, s_b47, s_b48, s_b49, s_b50, s_b51, s_b52, s_b53, s_b54, s_b55, s_b56, s_b57, s_b58, s_b59, s_b60, s_b61, s_b62, s_b63]
noncomputable def I_b122 : List e2_In := [(216, 1, e2x_216), (217, 1, e2x_217), (227, 2, e2x_227)]
set_option maxRecDepth 1000000 in
theorem co_b122 : e2_okSB E_b122.length as_b122 f_b122 rs_b122 = true := by decide +kernel
def al_b122_26 : List ev_V := [(2, 83, 0), (11, 0, 4294967295), (1, 4, 4294967296), (9, 0, 0), (9, 0, 0)]
def E_b122_26 : e2_E := [(2147483648, 2147583648, 0, 0), (2147483656, 2147483656, 1, 0), (2147483648, 2147483688, 2, 0), (2147483648, 2147483688, 3, 0), (2147483648, 2147483657, 4, 0)]
noncomputable def h_b122_26 : ev_H := (bn1470 : e2_Q8)
def al_b122_27 : List ev_V := [(2, 83, 0), (11, 0, 4294967295), (1, 4, 4294967296), (9, 0, 0), (9, 0, 0)]
def E_b122_27 : e2_E := [(2147483648, 2147583648, 0, 0), (2147483656, 2147483656, 1, 0), (2147483648, 2147483688, 2, 0), (2147483648, 2147483688, 3, 0), (2147483647, 2147483667, 4, 0)]
noncomputable def h_b122_27 : ev_H := (bn1470 : e2_Q8)
def al_b122_28 : List ev_V := [(2, 83, 0), (11, 0, 4294967295), (1, 4, 4294967296), (1, 5, 4294967296), (9, 0, 0)]
def E_b122_28 : e2_E := [(2147483648, 2147583648, 0, 0), (2147483656, 2147483656, 1, 0), (2147483648, 2147483688, 2, 0), (2147483648, 2147483688, 3, 0), (2147483648, 2147483667, 4, 0), (2147483648, 2147483657, 5, 0)]
noncomputable def h_b122_28 : ev_H := (bn1470 : e2_Q8)
def bn1471 : e2_Q7 := (bn974, bn1038)
def bn1472 : e2_Q8 := (bn477, bn1471)
noncomputable def h_b122_0 : ev_H := (bn1472 : e2_Q8)
def bn1473 : e2_Q7 := (bn974, bn1050)
def bn1474 : e2_Q8 := (bn477, bn1473)
noncomputable def h_b122_1 : ev_H := (bn1474 : e2_Q8)
def bn1475 : e2_Q7 := (bn974, bn1058)
def bn1476 : e2_Q8 := (bn477, bn1475)
noncomputable def h_b122_2 : ev_H := (bn1476 : e2_Q8)
def bn1477 : e2_Q7 := (bn974, bn1066)
def bn1478 : e2_Q8 := (bn477, bn1477)
noncomputable def h_b122_3 : ev_H := (bn1478 : e2_Q8)
def bn1479 : e2_Q7 := (bn974, bn1074)
def bn1480 : e2_Q8 := (bn477, bn1479)
noncomputable def h_b122_4 : ev_H := (bn1480 : e2_Q8)
def bn1481 : e2_Q7 := (bn974, bn1082)
def bn1482 : e2_Q8 := (bn477, bn1481)
noncomputable def h_b122_5 : ev_H := (bn1482 : e2_Q8)
def bn1483 : e2_Q7 := (bn974, bn1090)
def bn1484 : e2_Q8 := (bn477, bn1483)
noncomputable def h_b122_6 : ev_H := (bn1484 : e2_Q8)
def bn1485 : e2_Q7 := (bn974, bn1098)
def bn1486 : e2_Q8 := (bn477, bn1485)
noncomputable def h_b122_7 : ev_H := (bn1486 : e2_Q8)
def bn1487 : e2_Q7 := (bn974, bn1106)
def bn1488 : e2_Q8 := (bn477, bn1487)
noncomputable def h_b122_8 : ev_H := (bn1488 : e2_Q8)
def bn1489 : e2_Q7 := (bn974, bn1114)
def bn1490 : e2_Q8 := (bn477, bn1489)
noncomputable def h_b122_9 : ev_H := (bn1490 : e2_Q8)
def bn1491 : e2_Q7 := (bn974, bn1122)
def bn1492 : e2_Q8 := (bn477, bn1491)
noncomputable def h_b122_10 : ev_H := (bn1492 : e2_Q8)
def bn1493 : e2_Q7 := (bn974, bn1130)
def bn1494 : e2_Q8 := (bn477, bn1493)
noncomputable def h_b122_11 : ev_H := (bn1494 : e2_Q8)
def bn1495 : e2_Q7 := (bn974, bn1138)
def bn1496 : e2_Q8 := (bn477, bn1495)
noncomputable def h_b122_12 : ev_H := (bn1496 : e2_Q8)
def bn1497 : e2_Q7 := (bn974, bn1146)
def bn1498 : e2_Q8 := (bn477, bn1497)
noncomputable def h_b122_13 : ev_H := (bn1498 : e2_Q8)
def bn1499 : e2_Q7 := (bn974, bn1154)
def bn1500 : e2_Q8 := (bn477, bn1499)
noncomputable def h_b122_14 : ev_H := (bn1500 : e2_Q8)
def bn1501 : e2_Q7 := (bn974, bn1162)
def bn1502 : e2_Q8 := (bn477, bn1501)
noncomputable def h_b122_15 : ev_H := (bn1502 : e2_Q8)
def bn1503 : e2_Q7 := (bn974, bn1170)
def bn1504 : e2_Q8 := (bn477, bn1503)
noncomputable def h_b122_16 : ev_H := (bn1504 : e2_Q8)
def bn1505 : e2_Q7 := (bn974, bn1178)
def bn1506 : e2_Q8 := (bn477, bn1505)
noncomputable def h_b122_17 : ev_H := (bn1506 : e2_Q8)
def bn1507 : e2_Q7 := (bn974, bn1186)
def bn1508 : e2_Q8 := (bn477, bn1507)
noncomputable def h_b122_18 : ev_H := (bn1508 : e2_Q8)
def bn1509 : e2_Q7 := (bn974, bn1194)
def bn1510 : e2_Q8 := (bn477, bn1509)
noncomputable def h_b122_19 : ev_H := (bn1510 : e2_Q8)
noncomputable def h_b122_20 : ev_H := (bn1470 : e2_Q8)
def bn1511 : e2_Q7 := (bn974, bn1202)
def bn1512 : e2_Q8 := (bn477, bn1511)
noncomputable def h_b122_21 : ev_H := (bn1512 : e2_Q8)
noncomputable def h_b122_22 : ev_H := (bn1512 : e2_Q8)
noncomputable def h_b122_23 : ev_H := (bn1512 : e2_Q8)
noncomputable def h_b122_24 : ev_H := (bn1512 : e2_Q8)
noncomputable def h_b122_25 : ev_H := (bn1512 : e2_Q8)
noncomputable def cu_b122_120 : List e2_Cu := [([(2, 83, 0), (11, 0, 4294967295), (0, 0, 0), (0, 8, 0), (9, 0, 0)], [(2147483648, 2147583648, 0, 0), (2147483656, 2147483656, 1, 0), (2147483648, 2147483688, 2, 0), (2147483648, 2147483688, 3, 0)], h_b122_0),
  ([(2, 83, 0), (11, 0, 4294967295), (0, 1, 0), (11, 2147483648, 2147483656), (11, 2147483647, 2147483655)], [(2147483648, 2147583648, 0, 0), (2147483656, 2147483656, 1, 0), (2147483648, 2147483688, 2, 0), (2147483648, 2147483688, 3, 0)], h_b122_1),
  ([(2, 83, 0), (11, 0, 4294967295), (0, 2, 0), (11, 2147483648, 2147483656), (11, 2147483647, 2147483655)], [(2147483648, 2147583648, 0, 0), (2147483656, 2147483656, 1, 0), (2147483648, 2147483688, 2, 0), (2147483648, 2147483688, 3, 0)], h_b122_2),
  ([(2, 83, 0), (11, 0, 4294967295), (0, 3, 0), (11, 2147483648, 2147483656), (11, 2147483647, 2147483655)], [(2147483648, 2147583648, 0, 0), (2147483656, 2147483656, 1, 0), (2147483648, 2147483688, 2, 0), (2147483648, 2147483688, 3, 0)], h_b122_3),
  ([(2, 83, 0), (11, 0, 4294967295), (0, 4, 0), (11, 2147483648, 2147483656), (11, 2147483647, 2147483655)], [(2147483648, 2147583648, 0, 0), (2147483656, 2147483656, 1, 0), (2147483648, 2147483688, 2, 0), (2147483648, 2147483688, 3, 0)], h_b122_4),
  ([(2, 83, 0), (11, 0, 4294967295), (0, 5, 0), (11, 2147483648, 2147483656), (11, 2147483647, 2147483655)], [(2147483648, 2147583648, 0, 0), (2147483656, 2147483656, 1, 0), (2147483648, 2147483688, 2, 0), (2147483648, 2147483688, 3, 0)], h_b122_5),
  ([(2, 83, 0), (11, 0, 4294967295), (0, 6, 0), (11, 2147483648, 2147483656), (11, 2147483647, 2147483655)], [(2147483648, 2147583648, 0, 0), (2147483656, 2147483656, 1, 0), (2147483648, 2147483688, 2, 0), (2147483648, 2147483688, 3, 0)], h_b122_6),
  ([(2, 83, 0), (11, 0, 4294967295), (0, 7, 0), (11, 2147483648, 2147483656), (11, 2147483647, 2147483655)], [(2147483648, 2147583648, 0, 0), (2147483656, 2147483656, 1, 0), (2147483648, 2147483688, 2, 0), (2147483648, 2147483688, 3, 0)], h_b122_7),
  ([(2, 83, 0), (11, 0, 4294967295), (0, 8, 0), (11, 2147483648, 2147483656), (11, 2147483647, 2147483655)], [(2147483648, 2147583648, 0, 0), (2147483656, 2147483656, 1, 0), (2147483648, 2147483688, 2, 0), (2147483648, 2147483688, 3, 0)], h_b122_8),
  ([(2, 83, 0), (11, 0, 4294967295), (0, 9, 0), (11, 2147483648, 2147483656), (11, 2147483647, 2147483655)], [(2147483648, 2147583648, 0, 0), (2147483656, 2147483656, 1, 0), (2147483648, 2147483688, 2, 0), (2147483648, 2147483688, 3, 0)], h_b122_9),
  ([(2, 83, 0), (11, 0, 4294967295), (0, 10, 0), (11, 2147483648, 2147483656), (11, 2147483647, 2147483655)], [(2147483648, 2147583648, 0, 0), (2147483656, 2147483656, 1, 0), (2147483648, 2147483688, 2, 0), (2147483648, 2147483688, 3, 0)], h_b122_10),
  ([(2, 83, 0), (11, 0, 4294967295), (0, 11, 0), (11, 2147483648, 2147483656), (11, 2147483647, 2147483655)], [(2147483648, 2147583648, 0, 0), (2147483656, 2147483656, 1, 0), (2147483648, 2147483688, 2, 0), (2147483648, 2147483688, 3, 0)], h_b122_11),
  ([(2, 83, 0), (11, 0, 4294967295), (0, 12, 0), (11, 2147483648, 2147483656), (11, 2147483647, 2147483655)], [(2147483648, 2147583648, 0, 0), (2147483656, 2147483656, 1, 0), (2147483648, 2147483688, 2, 0), (2147483648, 2147483688, 3, 0)], h_b122_12),
  ([(2, 83, 0), (11, 0, 4294967295), (0, 13, 0), (11, 2147483648, 2147483656), (11, 2147483647, 2147483655)], [(2147483648, 2147583648, 0, 0), (2147483656, 2147483656, 1, 0), (2147483648, 2147483688, 2, 0), (2147483648, 2147483688, 3, 0)], h_b122_13),
  ([(2, 83, 0), (11, 0, 4294967295), (0, 14, 0), (11, 2147483648, 2147483656), (11, 2147483647, 2147483655)], [(2147483648, 2147583648, 0, 0), (2147483656, 2147483656, 1, 0), (2147483648, 2147483688, 2, 0), (2147483648, 2147483688, 3, 0)], h_b122_14),
  ([(2, 83, 0), (11, 0, 4294967295), (0, 15, 0), (11, 2147483648, 2147483656), (11, 2147483647, 2147483655)], [(2147483648, 2147583648, 0, 0), (2147483656, 2147483656, 1, 0), (2147483648, 2147483688, 2, 0), (2147483648, 2147483688, 3, 0)], h_b122_15),
  ([(2, 83, 0), (11, 0, 4294967295), (0, 16, 0), (11, 2147483648, 2147483656), (11, 2147483647, 2147483655)], [(2147483648, 2147583648, 0, 0), (2147483656, 2147483656, 1, 0), (2147483648, 2147483688, 2, 0), (2147483648, 2147483688, 3, 0)], h_b122_16),
  ([(2, 83, 0), (11, 0, 4294967295), (0, 17, 0), (11, 2147483648, 2147483656), (11, 2147483647, 2147483655)], [(2147483648, 2147583648, 0, 0), (2147483656, 2147483656, 1, 0), (2147483648, 2147483688, 2, 0), (2147483648, 2147483688, 3, 0)], h_b122_17),
  ([(2, 83, 0), (11, 0, 4294967295), (0, 18, 0), (11, 2147483648, 2147483656), (11, 2147483647, 2147483655)], [(2147483648, 2147583648, 0, 0), (2147483656, 2147483656, 1, 0), (2147483648, 2147483688, 2, 0), (2147483648, 2147483688, 3, 0)], h_b122_18),
  ([(2, 83, 0), (11, 0, 4294967295), (0, 19, 0), (11, 2147483648, 2147483656), (11, 2147483647, 2147483655)], [(2147483648, 2147583648, 0, 0), (2147483656, 2147483656, 1, 0), (2147483648, 2147483688, 2, 0), (2147483648, 2147483688, 3, 0)], h_b122_19),
  ([(2, 83, 0), (11, 0, 4294967295), (0, 20, 0), (11, 2147483648, 2147483656), (11, 2147483647, 2147483655)], [(2147483648, 2147583648, 0, 0), (2147483656, 2147483656, 1, 0), (2147483648, 2147483688, 2, 0), (2147483648, 2147483688, 3, 0)], h_b122_20),
  ([(2, 83, 0), (11, 0, 4294967295), (0, 21, 0), (11, 2147483648, 2147483655), (11, 2147483648, 2147483655)], [(2147483648, 2147583648, 0, 0), (2147483656, 2147483656, 1, 0), (2147483648, 2147483688, 2, 0), (2147483648, 2147483688, 3, 0)], h_b122_21),
  ([(2, 83, 0), (11, 0, 4294967295), (0, 22, 0), (11, 2147483648, 2147483655), (11, 2147483648, 2147483655)], [(2147483648, 2147583648, 0, 0), (2147483656, 2147483656, 1, 0), (2147483648, 2147483688, 2, 0), (2147483648, 2147483688, 3, 0)], h_b122_22),
  ([(2, 83, 0), (11, 0, 4294967295), (0, 23, 0), (11, 2147483648, 2147483655), (11, 2147483648, 2147483655)], [(2147483648, 2147583648, 0, 0), (2147483656, 2147483656, 1, 0), (2147483648, 2147483688, 2, 0), (2147483648, 2147483688, 3, 0)], h_b122_23),
  ([(2, 83, 0), (11, 0, 4294967295), (0, 24, 0), (11, 2147483648, 2147483655), (11, 2147483648, 2147483655)], [(2147483648, 2147583648, 0, 0), (2147483656, 2147483656, 1, 0), (2147483648, 2147483688, 2, 0), (2147483648, 2147483688, 3, 0)], h_b122_24),
  ([(2, 83, 0), (11, 0, 4294967295), (0, 25, 0), (11, 2147483648, 2147483655), (11, 2147483648, 2147483655)], [(2147483648, 2147583648, 0, 0), (2147483656, 2147483656, 1, 0), (2147483648, 2147483688, 2, 0), (2147483648, 2147483688, 3, 0)], h_b122_25)]
noncomputable def cl_b122_e : List (Nat × e2_S) := [(2, e2_cutL (al_b122_26.set 2 (11, 2147483648, 2147483657)) 4 (E_b122_26.take 4) h_b122_26)]
set_option maxRecDepth 1000000 in
theorem ck_b122_e : e2_run (e2_orG 231 83 11 4 2147483648 2147483668 as_b113 Eb_b113 f_b113 rs_b113 (e2_orG 231 83 11 4 2147483648 2147483668 as_b112 Eb_b112 f_b112 rs_b112 (e2_orG 231 83 11 4 2147483648 2147483668 as_b111 Eb_b111 f_b111 rs_b111 (e2_orG 231 83 11 4 2147483648 2147483668 as_b110 Eb_b110 f_b110 rs_b110 (e2_orG 231 83 11 4 2147483648 2147483668 as_b109 Eb_b109 f_b109 rs_b109 (e2_orG 231 83 11 4 2147483648 2147483668 as_b108 Eb_b108 f_b108 rs_b108 (e2_orG 231 83 11 4 2147483648 2147483668 as_b107 Eb_b107 f_b107 rs_b107 (e2_orG 231 83 11 4 2147483648 2147483668 as_b106 Eb_b106 f_b106 rs_b106 (e2_orG 231 83 11 4 2147483648 2147483668 as_b105 Eb_b105 f_b105 rs_b105 (e2_orG 231 83 11 4 2147483648 2147483668 as_b104 Eb_b104 f_b104 rs_b104 (e2_orG 231 83 11 4 2147483648 2147483668 as_b103 Eb_b103 f_b103 rs_b103 (e2_orG 231 83 11 4 2147483648 2147483668 as_b102 Eb_b102 f_b102 rs_b102 (e2_orG 231 83 11 4 2147483648 2147483668 as_b101 Eb_b101 f_b101 rs_b101 (e2_orG 231 83 11 4 2147483648 2147483668 as_b100 Eb_b100 f_b100 rs_b100 (e2_orG 231 83 11 4 2147483648 2147483668 as_b99 Eb_b99 f_b99 rs_b99 (e2_orG 231 83 11 4 2147483648 2147483668 as_b98 Eb_b98 f_b98 rs_b98 (e2_orG 231 83 11 4 2147483648 2147483668 as_b97 Eb_b97 f_b97 rs_b97 (e2_orG 231 83 11 4 2147483648 2147483668 as_b96 Eb_b96 f_b96 rs_b96 (e2_orG 231 83 11 4 2147483648 2147483668 as_b95 Eb_b95 f_b95 rs_b95 (e2_orG 231 83 11 4 2147483648 2147483668 as_b94 Eb_b94 f_b94 rs_b94 (e2_cal S_b122 I_b122 4000 1))))))))))))))))))))) (e2_fin rs_b122) e2x_230 (e2_bpL cl_b122_e) (e2_cutA cl_b122_e) 4000 (e2_seek e2x_230 0) (e2_al 5 as_b122) [] E_b122 f_b122 = true := by decide +kernel
noncomputable def cl_b122_26 : List (Nat × e2_S) := [(2, e2_cutL (al_b122_26.set 2 (13, 12, 2147483657)) 4 (E_b122_26.take 4) h_b122_26),
  (49, e2_cutL (al_b122_27.set 2 (11, 2147483647, 2147483667)) 4 (E_b122_27.take 4) h_b122_27)]
set_option maxRecDepth 1000000 in
theorem ck_b122_26 : e2_runM (e2_orG 231 83 11 4 2147483648 2147483668 as_b113 Eb_b113 f_b113 rs_b113 (e2_orG 231 83 11 4 2147483648 2147483668 as_b112 Eb_b112 f_b112 rs_b112 (e2_orG 231 83 11 4 2147483648 2147483668 as_b111 Eb_b111 f_b111 rs_b111 (e2_orG 231 83 11 4 2147483648 2147483668 as_b110 Eb_b110 f_b110 rs_b110 (e2_orG 231 83 11 4 2147483648 2147483668 as_b109 Eb_b109 f_b109 rs_b109 (e2_orG 231 83 11 4 2147483648 2147483668 as_b108 Eb_b108 f_b108 rs_b108 (e2_orG 231 83 11 4 2147483648 2147483668 as_b107 Eb_b107 f_b107 rs_b107 (e2_orG 231 83 11 4 2147483648 2147483668 as_b106 Eb_b106 f_b106 rs_b106 (e2_orG 231 83 11 4 2147483648 2147483668 as_b105 Eb_b105 f_b105 rs_b105 (e2_orG 231 83 11 4 2147483648 2147483668 as_b104 Eb_b104 f_b104 rs_b104 (e2_orG 231 83 11 4 2147483648 2147483668 as_b103 Eb_b103 f_b103 rs_b103 (e2_orG 231 83 11 4 2147483648 2147483668 as_b102 Eb_b102 f_b102 rs_b102 (e2_orG 231 83 11 4 2147483648 2147483668 as_b101 Eb_b101 f_b101 rs_b101 (e2_orG 231 83 11 4 2147483648 2147483668 as_b100 Eb_b100 f_b100 rs_b100 (e2_orG 231 83 11 4 2147483648 2147483668 as_b99 Eb_b99 f_b99 rs_b99 (e2_orG 231 83 11 4 2147483648 2147483668 as_b98 Eb_b98 f_b98 rs_b98 (e2_orG 231 83 11 4 2147483648 2147483668 as_b97 Eb_b97 f_b97 rs_b97 (e2_orG 231 83 11 4 2147483648 2147483668 as_b96 Eb_b96 f_b96 rs_b96 (e2_orG 231 83 11 4 2147483648 2147483668 as_b95 Eb_b95 f_b95 rs_b95 (e2_orG 231 83 11 4 2147483648 2147483668 as_b94 Eb_b94 f_b94 rs_b94 (e2_cal S_b122 I_b122 4000 1))))))))))))))))))))) (e2_fin rs_b122) e2x_230 (e2_bpL cl_b122_26) (e2_cutA cl_b122_26) 4000 (e2_seek e2x_230 2) al_b122_26 [] E_b122_26 h_b122_26 = true := by decide +kernel
set_option maxRecDepth 1000000 in
theorem ci_b122_26 : e2_idl 4 (al_b122_26.set 2 (9, 0, 0)) = true := by decide +kernel
set_option maxRecDepth 1000000 in
theorem cj_b122_26 : e2_idh 4 8 h_b122_26 = true := by decide +kernel
noncomputable def cl_b122_27 : List (Nat × e2_S) := [(120, e2_cutS cu_b122_120),
  (55, e2_cutL (al_b122_28.set 3 (11, 2147483648, 2147483657)) 5 (E_b122_28.take 5) h_b122_28)]
set_option maxRecDepth 1000000 in
theorem ck_b122_27 : e2_runM (e2_orG 231 83 11 4 2147483648 2147483668 as_b113 Eb_b113 f_b113 rs_b113 (e2_orG 231 83 11 4 2147483648 2147483668 as_b112 Eb_b112 f_b112 rs_b112 (e2_orG 231 83 11 4 2147483648 2147483668 as_b111 Eb_b111 f_b111 rs_b111 (e2_orG 231 83 11 4 2147483648 2147483668 as_b110 Eb_b110 f_b110 rs_b110 (e2_orG 231 83 11 4 2147483648 2147483668 as_b109 Eb_b109 f_b109 rs_b109 (e2_orG 231 83 11 4 2147483648 2147483668 as_b108 Eb_b108 f_b108 rs_b108 (e2_orG 231 83 11 4 2147483648 2147483668 as_b107 Eb_b107 f_b107 rs_b107 (e2_orG 231 83 11 4 2147483648 2147483668 as_b106 Eb_b106 f_b106 rs_b106 (e2_orG 231 83 11 4 2147483648 2147483668 as_b105 Eb_b105 f_b105 rs_b105 (e2_orG 231 83 11 4 2147483648 2147483668 as_b104 Eb_b104 f_b104 rs_b104 (e2_orG 231 83 11 4 2147483648 2147483668 as_b103 Eb_b103 f_b103 rs_b103 (e2_orG 231 83 11 4 2147483648 2147483668 as_b102 Eb_b102 f_b102 rs_b102 (e2_orG 231 83 11 4 2147483648 2147483668 as_b101 Eb_b101 f_b101 rs_b101 (e2_orG 231 83 11 4 2147483648 2147483668 as_b100 Eb_b100 f_b100 rs_b100 (e2_orG 231 83 11 4 2147483648 2147483668 as_b99 Eb_b99 f_b99 rs_b99 (e2_orG 231 83 11 4 2147483648 2147483668 as_b98 Eb_b98 f_b98 rs_b98 (e2_orG 231 83 11 4 2147483648 2147483668 as_b97 Eb_b97 f_b97 rs_b97 (e2_orG 231 83 11 4 2147483648 2147483668 as_b96 Eb_b96 f_b96 rs_b96 (e2_orG 231 83 11 4 2147483648 2147483668 as_b95 Eb_b95 f_b95 rs_b95 (e2_orG 231 83 11 4 2147483648 2147483668 as_b94 Eb_b94 f_b94 rs_b94 (e2_cal S_b122 I_b122 4000 1))))))))))))))))))))) (e2_fin rs_b122) e2x_230 (e2_bpL cl_b122_27) (e2_cutA cl_b122_27) 4000 (e2_seek e2x_230 49) al_b122_27 [] E_b122_27 h_b122_27 = true := by decide +kernel
set_option maxRecDepth 1000000 in
theorem ci_b122_27 : e2_idl 4 (al_b122_27.set 2 (9, 0, 0)) = true := by decide +kernel
set_option maxRecDepth 1000000 in
theorem cj_b122_27 : e2_idh 4 8 h_b122_27 = true := by decide +kernel
noncomputable def cl_b122_28 : List (Nat × e2_S) := [(49, e2_cutL (al_b122_27.set 2 (12, 12, 2147483647)) 4 (E_b122_27.take 4) h_b122_27),
  (55, e2_cutL (al_b122_28.set 3 (13, 13, 2147483657)) 5 (E_b122_28.take 5) h_b122_28)]
set_option maxRecDepth 1000000 in
theorem ck_b122_28 : e2_runM (e2_orG 231 83 11 4 2147483648 2147483668 as_b113 Eb_b113 f_b113 rs_b113 (e2_orG 231 83 11 4 2147483648 2147483668 as_b112 Eb_b112 f_b112 rs_b112 (e2_orG 231 83 11 4 2147483648 2147483668 as_b111 Eb_b111 f_b111 rs_b111 (e2_orG 231 83 11 4 2147483648 2147483668 as_b110 Eb_b110 f_b110 rs_b110 (e2_orG 231 83 11 4 2147483648 2147483668 as_b109 Eb_b109 f_b109 rs_b109 (e2_orG 231 83 11 4 2147483648 2147483668 as_b108 Eb_b108 f_b108 rs_b108 (e2_orG 231 83 11 4 2147483648 2147483668 as_b107 Eb_b107 f_b107 rs_b107 (e2_orG 231 83 11 4 2147483648 2147483668 as_b106 Eb_b106 f_b106 rs_b106 (e2_orG 231 83 11 4 2147483648 2147483668 as_b105 Eb_b105 f_b105 rs_b105 (e2_orG 231 83 11 4 2147483648 2147483668 as_b104 Eb_b104 f_b104 rs_b104 (e2_orG 231 83 11 4 2147483648 2147483668 as_b103 Eb_b103 f_b103 rs_b103 (e2_orG 231 83 11 4 2147483648 2147483668 as_b102 Eb_b102 f_b102 rs_b102 (e2_orG 231 83 11 4 2147483648 2147483668 as_b101 Eb_b101 f_b101 rs_b101 (e2_orG 231 83 11 4 2147483648 2147483668 as_b100 Eb_b100 f_b100 rs_b100 (e2_orG 231 83 11 4 2147483648 2147483668 as_b99 Eb_b99 f_b99 rs_b99 (e2_orG 231 83 11 4 2147483648 2147483668 as_b98 Eb_b98 f_b98 rs_b98 (e2_orG 231 83 11 4 2147483648 2147483668 as_b97 Eb_b97 f_b97 rs_b97 (e2_orG 231 83 11 4 2147483648 2147483668 as_b96 Eb_b96 f_b96 rs_b96 (e2_orG 231 83 11 4 2147483648 2147483668 as_b95 Eb_b95 f_b95 rs_b95 (e2_orG 231 83 11 4 2147483648 2147483668 as_b94 Eb_b94 f_b94 rs_b94 (e2_cal S_b122 I_b122 4000 1))))))))))))))))))))) (e2_fin rs_b122) e2x_230 (e2_bpL cl_b122_28) (e2_cutA cl_b122_28) 4000 (e2_seek e2x_230 55) al_b122_28 [] E_b122_28 h_b122_28 = true := by decide +kernel
set_option maxRecDepth 1000000 in
theorem ci_b122_28 : e2_idl 5 (al_b122_28.set 3 (9, 0, 0)) = true := by decide +kernel
set_option maxRecDepth 1000000 in
theorem cj_b122_28 : e2_idh 5 8 h_b122_28 = true := by decide +kernel
set_option maxRecDepth 1000000 in
theorem ck_b122_u120 : e2_cutsB (e2_orG 231 83 11 4 2147483648 2147483668 as_b113 Eb_b113 f_b113 rs_b113 (e2_orG 231 83 11 4 2147483648 2147483668 as_b112 Eb_b112 f_b112 rs_b112 (e2_orG 231 83 11 4 2147483648 2147483668 as_b111 Eb_b111 f_b111 rs_b111 (e2_orG 231 83 11 4 2147483648 2147483668 as_b110 Eb_b110 f_b110 rs_b110 (e2_orG 231 83 11 4 2147483648 2147483668 as_b109 Eb_b109 f_b109 rs_b109 (e2_orG 231 83 11 4 2147483648 2147483668 as_b108 Eb_b108 f_b108 rs_b108 (e2_orG 231 83 11 4 2147483648 2147483668 as_b107 Eb_b107 f_b107 rs_b107 (e2_orG 231 83 11 4 2147483648 2147483668 as_b106 Eb_b106 f_b106 rs_b106 (e2_orG 231 83 11 4 2147483648 2147483668 as_b105 Eb_b105 f_b105 rs_b105 (e2_orG 231 83 11 4 2147483648 2147483668 as_b104 Eb_b104 f_b104 rs_b104 (e2_orG 231 83 11 4 2147483648 2147483668 as_b103 Eb_b103 f_b103 rs_b103 (e2_orG 231 83 11 4 2147483648 2147483668 as_b102 Eb_b102 f_b102 rs_b102 (e2_orG 231 83 11 4 2147483648 2147483668 as_b101 Eb_b101 f_b101 rs_b101 (e2_orG 231 83 11 4 2147483648 2147483668 as_b100 Eb_b100 f_b100 rs_b100 (e2_orG 231 83 11 4 2147483648 2147483668 as_b99 Eb_b99 f_b99 rs_b99 (e2_orG 231 83 11 4 2147483648 2147483668 as_b98 Eb_b98 f_b98 rs_b98 (e2_orG 231 83 11 4 2147483648 2147483668 as_b97 Eb_b97 f_b97 rs_b97 (e2_orG 231 83 11 4 2147483648 2147483668 as_b96 Eb_b96 f_b96 rs_b96 (e2_orG 231 83 11 4 2147483648 2147483668 as_b95 Eb_b95 f_b95 rs_b95 (e2_orG 231 83 11 4 2147483648 2147483668 as_b94 Eb_b94 f_b94 rs_b94 (e2_cal S_b122 I_b122 4000 1))))))))))))))))))))) (e2_fin rs_b122) e2x_230 120 4000 cu_b122_120 = true := by decide +kernel
set_option maxRecDepth 1000000 in
theorem cs_b122 (hen : en_ok) (l : Launch) : e2_smOk l 5 s_b122 := by
  refine e2_conC (H := 4) (C := evd_230) (call := (e2_orG 231 83 11 4 2147483648 2147483668 as_b113 Eb_b113 f_b113 rs_b113 (e2_orG 231 83 11 4 2147483648 2147483668 as_b112 Eb_b112 f_b112 rs_b112 (e2_orG 231 83 11 4 2147483648 2147483668 as_b111 Eb_b111 f_b111 rs_b111 (e2_orG 231 83 11 4 2147483648 2147483668 as_b110 Eb_b110 f_b110 rs_b110 (e2_orG 231 83 11 4 2147483648 2147483668 as_b109 Eb_b109 f_b109 rs_b109 (e2_orG 231 83 11 4 2147483648 2147483668 as_b108 Eb_b108 f_b108 rs_b108 (e2_orG 231 83 11 4 2147483648 2147483668 as_b107 Eb_b107 f_b107 rs_b107 (e2_orG 231 83 11 4 2147483648 2147483668 as_b106 Eb_b106 f_b106 rs_b106 (e2_orG 231 83 11 4 2147483648 2147483668 as_b105 Eb_b105 f_b105 rs_b105 (e2_orG 231 83 11 4 2147483648 2147483668 as_b104 Eb_b104 f_b104 rs_b104 (e2_orG 231 83 11 4 2147483648 2147483668 as_b103 Eb_b103 f_b103 rs_b103 (e2_orG 231 83 11 4 2147483648 2147483668 as_b102 Eb_b102 f_b102 rs_b102 (e2_orG 231 83 11 4 2147483648 2147483668 as_b101 Eb_b101 f_b101 rs_b101 (e2_orG 231 83 11 4 2147483648 2147483668 as_b100 Eb_b100 f_b100 rs_b100 (e2_orG 231 83 11 4 2147483648 2147483668 as_b99 Eb_b99 f_b99 rs_b99 (e2_orG 231 83 11 4 2147483648 2147483668 as_b98 Eb_b98 f_b98 rs_b98 (e2_orG 231 83 11 4 2147483648 2147483668 as_b97 Eb_b97 f_b97 rs_b97 (e2_orG 231 83 11 4 2147483648 2147483668 as_b96 Eb_b96 f_b96 rs_b96 (e2_orG 231 83 11 4 2147483648 2147483668 as_b95 Eb_b95 f_b95 rs_b95 (e2_orG 231 83 11 4 2147483648 2147483668 as_b94 Eb_b94 f_b94 rs_b94 (e2_cal S_b122 I_b122 4000 1)))))))))))))))))))))) ei_230 (fun d hd => (e2_orG_ok (k0 := 231) (a := 83) (j := 11) (n := 4) (lo := 2147483648) (hi := 2147483668) (as0 := as_b113) (Eb := Eb_b113) (f := f_b113) (res := rs_b113) (e2_orG_ok (k0 := 231) (a := 83) (j := 11) (n := 4) (lo := 2147483648) (hi := 2147483668) (as0 := as_b112) (Eb := Eb_b112) (f := f_b112) (res := rs_b112) (e2_orG_ok (k0 := 231) (a := 83) (j := 11) (n := 4) (lo := 2147483648) (hi := 2147483668) (as0 := as_b111) (Eb := Eb_b111) (f := f_b111) (res := rs_b111) (e2_orG_ok (k0 := 231) (a := 83) (j := 11) (n := 4) (lo := 2147483648) (hi := 2147483668) (as0 := as_b110) (Eb := Eb_b110) (f := f_b110) (res := rs_b110) (e2_orG_ok (k0 := 231) (a := 83) (j := 11) (n := 4) (lo := 2147483648) (hi := 2147483668) (as0 := as_b109) (Eb := Eb_b109) (f := f_b109) (res := rs_b109) (e2_orG_ok (k0 := 231) (a := 83) (j := 11) (n := 4) (lo := 2147483648) (hi := 2147483668) (as0 := as_b108) (Eb := Eb_b108) (f := f_b108) (res := rs_b108) (e2_orG_ok (k0 := 231) (a := 83) (j := 11) (n := 4) (lo := 2147483648) (hi := 2147483668) (as0 := as_b107) (Eb := Eb_b107) (f := f_b107) (res := rs_b107) (e2_orG_ok (k0 := 231) (a := 83) (j := 11) (n := 4) (lo := 2147483648) (hi := 2147483668) (as0 := as_b106) (Eb := Eb_b106) (f := f_b106) (res := rs_b106) (e2_orG_ok (k0 := 231) (a := 83) (j := 11) (n := 4) (lo := 2147483648) (hi := 2147483668) (as0 := as_b105) (Eb := Eb_b105) (f := f_b105) (res := rs_b105) (e2_orG_ok (k0 := 231) (a := 83) (j := 11) (n := 4) (lo := 2147483648) (hi := 2147483668) (as0 := as_b104) (Eb := Eb_b104) (f := f_b104) (res := rs_b104) (e2_orG_ok (k0 := 231) (a := 83) (j := 11) (n := 4) (lo := 2147483648) (hi := 2147483668) (as0 := as_b103) (Eb := Eb_b103) (f := f_b103) (res := rs_b103) (e2_orG_ok (k0 := 231) (a := 83) (j := 11) (n := 4) (lo := 2147483648) (hi := 2147483668) (as0 := as_b102) (Eb := Eb_b102) (f := f_b102) (res := rs_b102) (e2_orG_ok (k0 := 231) (a := 83) (j := 11) (n := 4) (lo := 2147483648) (hi := 2147483668) (as0 := as_b101) (Eb := Eb_b101) (f := f_b101) (res := rs_b101) (e2_orG_ok (k0 := 231) (a := 83) (j := 11) (n := 4) (lo := 2147483648) (hi := 2147483668) (as0 := as_b100) (Eb := Eb_b100) (f := f_b100) (res := rs_b100) (e2_orG_ok (k0 := 231) (a := 83) (j := 11) (n := 4) (lo := 2147483648) (hi := 2147483668) (as0 := as_b99) (Eb := Eb_b99) (f := f_b99) (res := rs_b99) (e2_orG_ok (k0 := 231) (a := 83) (j := 11) (n := 4) (lo := 2147483648) (hi := 2147483668) (as0 := as_b98) (Eb := Eb_b98) (f := f_b98) (res := rs_b98) (e2_orG_ok (k0 := 231) (a := 83) (j := 11) (n := 4) (lo := 2147483648) (hi := 2147483668) (as0 := as_b97) (Eb := Eb_b97) (f := f_b97) (res := rs_b97) (e2_orG_ok (k0 := 231) (a := 83) (j := 11) (n := 4) (lo := 2147483648) (hi := 2147483668) (as0 := as_b96) (Eb := Eb_b96) (f := f_b96) (res := rs_b96) (e2_orG_ok (k0 := 231) (a := 83) (j := 11) (n := 4) (lo := 2147483648) (hi := 2147483668) (as0 := as_b95) (Eb := Eb_b95) (f := f_b95) (res := rs_b95) (e2_orG_ok (k0 := 231) (a := 83) (j := 11) (n := 4) (lo := 2147483648) (hi := 2147483668) (as0 := as_b94) (Eb := Eb_b94) (f := f_b94) (res := rs_b94) (e2_cal_ok hen (e2_fa (cs_b44 hen l) (e2_fa (cs_b45 hen l) (e2_fa (cs_b46 hen l) (e2_fa (cs_b47 hen l) (e2_fa (cs_b48 hen l) (e2_fa (cs_b49 hen l) (e2_fa (cs_b50 hen l) (e2_fa (cs_b51 hen l) (e2_fa (cs_b52 hen l) (e2_fa (cs_b53 hen l) (e2_fa (cs_b54 hen l) (e2_fa (cs_b55 hen l) (e2_fa (cs_b56 hen l) (e2_fa (cs_b57 hen l) (e2_fa (cs_b58 hen l) (e2_fa (cs_b59 hen l) (e2_fa (cs_b60 hen l) (e2_fa (cs_b61 hen l) (e2_fa (cs_b62 hen l) (e2_fa (cs_b63 hen l) e2_fz)))))))))))))))))))) (e2_fa ein_216 (e2_fa ein_217 (e2_fa ein_227 e2_fz))) 1 d (by omega)) rfl (by decide +kernel) (fun M hM => (cs_b94 hen l).2 M hM d (by omega)) (e2_okGB_ok cog_b94)) rfl (by decide +kernel) (fun M hM => (cs_b95 hen l).2 M hM d (by omega)) (e2_okGB_ok cog_b95)) rfl (by decide +kernel) (fun M hM => (cs_b96 hen l).2 M hM d (by omega)) (e2_okGB_ok cog_b96)) rfl (by decide +kernel) (fun M hM => (cs_b97 hen l).2 M hM d (by omega)) (e2_okGB_ok cog_b97)) rfl (by decide +kernel) (fun M hM => (cs_b98 hen l).2 M hM d (by omega)) (e2_okGB_ok cog_b98)) rfl (by decide +kernel) (fun M hM => (cs_b99 hen l).2 M hM d (by omega)) (e2_okGB_ok cog_b99)) rfl (by decide +kernel) (fun M hM => (cs_b100 hen l).2 M hM d (by omega)) (e2_okGB_ok cog_b100)) rfl (by decide +kernel) (fun M hM => (cs_b101 hen l).2 M hM d (by omega)) (e2_okGB_ok cog_b101)) rfl (by decide +kernel) (fun M hM => (cs_b102 hen l).2 M hM d (by omega)) (e2_okGB_ok cog_b102)) rfl (by decide +kernel) (fun M hM => (cs_b103 hen l).2 M hM d (by omega)) (e2_okGB_ok cog_b103)) rfl (by decide +kernel) (fun M hM => (cs_b104 hen l).2 M hM d (by omega)) (e2_okGB_ok cog_b104)) rfl (by decide +kernel) (fun M hM => (cs_b105 hen l).2 M hM d (by omega)) (e2_okGB_ok cog_b105)) rfl (by decide +kernel) (fun M hM => (cs_b106 hen l).2 M hM d (by omega)) (e2_okGB_ok cog_b106)) rfl (by decide +kernel) (fun M hM => (cs_b107 hen l).2 M hM d (by omega)) (e2_okGB_ok cog_b107)) rfl (by decide +kernel) (fun M hM => (cs_b108 hen l).2 M hM d (by omega)) (e2_okGB_ok cog_b108)) rfl (by decide +kernel) (fun M hM => (cs_b109 hen l).2 M hM d (by omega)) (e2_okGB_ok cog_b109)) rfl (by decide +kernel) (fun M hM => (cs_b110 hen l).2 M hM d (by omega)) (e2_okGB_ok cog_b110)) rfl (by decide +kernel) (fun M hM => (cs_b111 hen l).2 M hM d (by omega)) (e2_okGB_ok cog_b111)) rfl (by decide +kernel) (fun M hM => (cs_b112 hen l).2 M hM d (by omega)) (e2_okGB_ok cog_b112)) rfl (by decide +kernel) (fun M hM => (cs_b113 hen l).2 M hM d (by omega)) (e2_okGB_ok cog_b113))) (by decide) co_b122 fun M d _ hC hcall p e R s m args below meth c Q D cA A ads r0 ha hl0 => ?_
  have EN_120 := e2_cutS_ok (bp := 120) (cuts := cu_b122_120) (e2_cuts_len hl0 (by decide +kernel)) (e2_cuts_ok hen ha hcall (hC [76, 192, 195]) (X := e2x_230) ex2_230 (e2_cuts_len hl0 (by decide +kernel)) ck_b122_u120)
  have L_27 : e2_gdM M p l e R s m args below meth c Q D cA A ads r0 49 al_b122_27 [] E_b122_27 h_b122_27 := by
    refine e2_indD (u := 4) (j := 2) (lo := 2147483647) (hi := 2147483667) hl0 (by decide) rfl rfl rfl ci_b122_27 cj_b122_27 ?_
    intro r_27 k_27 hk_27 hp_27 hs_27 hn_27
    have hl_27 : r_27.length ≤ 5 := hs_27.len rfl
    have ha_27 := ha.ext hp_27
    have L_28 : e2_gdM M p l e R s m args below meth c Q D cA A ads r_27 55 al_b122_28 [] E_b122_28 h_b122_28 := by
      refine e2_indL (u := 5) (j := 3) (lo := 2147483648) (hi := 2147483657) (b := 5) (dd := 0) hl_27 (by decide) rfl rfl (Or.inr ⟨rfl, rfl⟩) rfl ci_b122_28 cj_b122_28 ?_
      intro r_28 k_28 hk_28 hp_28 hs_28 hn_28
      have hl_28 : r_28.length ≤ 6 := hs_28.len rfl
      have ha_28 := ha_27.ext hp_28
      exact e2_fromM hen ha_28 hcall (e2_cutA_ok (e2_fa (fun al st E h hc => (hn_27 al st E h hc).ext hp_28) (e2_fa (fun al st E h hc => hn_28 al st E h hc) e2_fz))) (hC [76, 192, 195]) (X := e2x_230) ex2_230 55 ck_b122_28
    have EN_28 := e2_entL (u := 5) (j := 3) (lo := 2147483648) (hi := 2147483657) hl_27 rfl rfl rfl ci_b122_28 cj_b122_28 L_28
    exact e2_fromM hen ha_27 hcall (e2_cutA_ok (e2_fa (fun al st E h hc => (EN_120 al st E h hc).ext hp_27) (e2_fa (fun al st E h hc => EN_28 al st E h hc) e2_fz))) (hC [76, 192, 195]) (X := e2x_230) ex2_230 49 ck_b122_27
  have EN_27 := e2_entL (u := 4) (j := 2) (lo := 2147483647) (hi := 2147483667) hl0 rfl rfl rfl ci_b122_27 cj_b122_27 L_27
  have L_26 : e2_gdM M p l e R s m args below meth c Q D cA A ads r0 2 al_b122_26 [] E_b122_26 h_b122_26 := by
    refine e2_indL (u := 4) (j := 2) (lo := 2147483648) (hi := 2147483657) (b := 4) (dd := 0) hl0 (by decide) rfl rfl (Or.inr ⟨rfl, rfl⟩) rfl ci_b122_26 cj_b122_26 ?_
    intro r_26 k_26 hk_26 hp_26 hs_26 hn_26
    have hl_26 : r_26.length ≤ 5 := hs_26.len rfl
    have ha_26 := ha.ext hp_26
    exact e2_fromM hen ha_26 hcall (e2_cutA_ok (e2_fa (fun al st E h hc => hn_26 al st E h hc) (e2_fa (fun al st E h hc => (EN_27 al st E h hc).ext hp_26) e2_fz))) (hC [76, 192, 195]) (X := e2x_230) ex2_230 2 ck_b122_26
  have EN_26 := e2_entL (u := 4) (j := 2) (lo := 2147483648) (hi := 2147483657) hl0 rfl rfl rfl ci_b122_26 cj_b122_26 L_26
  exact e2_from hen ha hcall (e2_cutA_ok (e2_fa (fun al st E h hc => EN_26 al st E h hc) e2_fz)) (hC [76, 192, 195]) (X := e2x_230) ex2_230 0 ck_b122_e
/-! b123 X10_read, by the values of the second variable -/
def as_b123 : List ev_V := [(2, 83, 0), (11, 0, 4294967295)]
def E_b123 : e2_E := [(2147483648, 2147583648, 0, 0), (2147483648, 2147483656, 1, 0), (2147483648, 2147483688, 2, 0), (2147483648, 2147483688, 3, 0)]
def bn1513 : e2_Q7 := (bn1019, bn457)
def bn1514 : e2_Q8 := (bn477, bn1513)
noncomputable def f_b123 : ev_H := (bn1514 : e2_Q8)
noncomputable def q_b123_0 : ev_H := (bn1514 : e2_Q8)
noncomputable def rs_b123 : e2_Rs := [((11, 2147483647, 2147483668), q_b123_0)]
noncomputable def s_b123 : e2_Sm := (230, as_b123, E_b123, f_b123, rs_b123)
set_option maxRecDepth 1000000 in
theorem co_b123 : e2_okSB E_b123.length as_b123 f_b123 rs_b123 = true := by decide +kernel
set_option maxRecDepth 1000000 in
theorem cp_b123_0 : e2_if (e2_lle (e2_vl9 (E_b123.set 1 (2147483648, 2147483648, 1, 0))) s_b114.2.1 as_b123) (e2_if (e2_pre s_b114.2.2.1.length s_b114.2.2.1 0 (E_b123.set 1 (2147483648, 2147483648, 1, 0))) (e2_if (e2_hlf (E_b123.set 1 (2147483648, 2147483648, 1, 0)) 8 s_b114.2.2.2.1 f_b123) (e2_allR s_b114.2.2.2.2 fun q => e2_fin rs_b123 q.1 (E_b123.set 1 (2147483648, 2147483648, 1, 0)) (e2_mrg 8 s_b114.2.2.2.1 q.2 f_b123)))) = true := by decide +kernel
set_option maxRecDepth 1000000 in
theorem cp_b123_1 : e2_if (e2_lle (e2_vl9 (E_b123.set 1 (2147483649, 2147483649, 1, 0))) s_b115.2.1 as_b123) (e2_if (e2_pre s_b115.2.2.1.length s_b115.2.2.1 0 (E_b123.set 1 (2147483649, 2147483649, 1, 0))) (e2_if (e2_hlf (E_b123.set 1 (2147483649, 2147483649, 1, 0)) 8 s_b115.2.2.2.1 f_b123) (e2_allR s_b115.2.2.2.2 fun q => e2_fin rs_b123 q.1 (E_b123.set 1 (2147483649, 2147483649, 1, 0)) (e2_mrg 8 s_b115.2.2.2.1 q.2 f_b123)))) = true := by decide +kernel
set_option maxRecDepth 1000000 in
theorem cp_b123_2 : e2_if (e2_lle (e2_vl9 (E_b123.set 1 (2147483650, 2147483650, 1, 0))) s_b116.2.1 as_b123) (e2_if (e2_pre s_b116.2.2.1.length s_b116.2.2.1 0 (E_b123.set 1 (2147483650, 2147483650, 1, 0))) (e2_if (e2_hlf (E_b123.set 1 (2147483650, 2147483650, 1, 0)) 8 s_b116.2.2.2.1 f_b123) (e2_allR s_b116.2.2.2.2 fun q => e2_fin rs_b123 q.1 (E_b123.set 1 (2147483650, 2147483650, 1, 0)) (e2_mrg 8 s_b116.2.2.2.1 q.2 f_b123)))) = true := by decide +kernel
set_option maxRecDepth 1000000 in
theorem cp_b123_3 : e2_if (e2_lle (e2_vl9 (E_b123.set 1 (2147483651, 2147483651, 1, 0))) s_b117.2.1 as_b123) (e2_if (e2_pre s_b117.2.2.1.length s_b117.2.2.1 0 (E_b123.set 1 (2147483651, 2147483651, 1, 0))) (e2_if (e2_hlf (E_b123.set 1 (2147483651, 2147483651, 1, 0)) 8 s_b117.2.2.2.1 f_b123) (e2_allR s_b117.2.2.2.2 fun q => e2_fin rs_b123 q.1 (E_b123.set 1 (2147483651, 2147483651, 1, 0)) (e2_mrg 8 s_b117.2.2.2.1 q.2 f_b123)))) = true := by decide +kernel
set_option maxRecDepth 1000000 in
theorem cp_b123_4 : e2_if (e2_lle (e2_vl9 (E_b123.set 1 (2147483652, 2147483652, 1, 0))) s_b118.2.1 as_b123) (e2_if (e2_pre s_b118.2.2.1.length s_b118.2.2.1 0 (E_b123.set 1 (2147483652, 2147483652, 1, 0))) (e2_if (e2_hlf (E_b123.set 1 (2147483652, 2147483652, 1, 0)) 8 s_b118.2.2.2.1 f_b123) (e2_allR s_b118.2.2.2.2 fun q => e2_fin rs_b123 q.1 (E_b123.set 1 (2147483652, 2147483652, 1, 0)) (e2_mrg 8 s_b118.2.2.2.1 q.2 f_b123)))) = true := by decide +kernel
set_option maxRecDepth 1000000 in
theorem cp_b123_5 : e2_if (e2_lle (e2_vl9 (E_b123.set 1 (2147483653, 2147483653, 1, 0))) s_b119.2.1 as_b123) (e2_if (e2_pre s_b119.2.2.1.length s_b119.2.2.1 0 (E_b123.set 1 (2147483653, 2147483653, 1, 0))) (e2_if (e2_hlf (E_b123.set 1 (2147483653, 2147483653, 1, 0)) 8 s_b119.2.2.2.1 f_b123) (e2_allR s_b119.2.2.2.2 fun q => e2_fin rs_b123 q.1 (E_b123.set 1 (2147483653, 2147483653, 1, 0)) (e2_mrg 8 s_b119.2.2.2.1 q.2 f_b123)))) = true := by decide +kernel
set_option maxRecDepth 1000000 in
theorem cp_b123_6 : e2_if (e2_lle (e2_vl9 (E_b123.set 1 (2147483654, 2147483654, 1, 0))) s_b120.2.1 as_b123) (e2_if (e2_pre s_b120.2.2.1.length s_b120.2.2.1 0 (E_b123.set 1 (2147483654, 2147483654, 1, 0))) (e2_if (e2_hlf (E_b123.set 1 (2147483654, 2147483654, 1, 0)) 8 s_b120.2.2.2.1 f_b123) (e2_allR s_b120.2.2.2.2 fun q => e2_fin rs_b123 q.1 (E_b123.set 1 (2147483654, 2147483654, 1, 0)) (e2_mrg 8 s_b120.2.2.2.1 q.2 f_b123)))) = true := by decide +kernel
set_option maxRecDepth 1000000 in
theorem cp_b123_7 : e2_if (e2_lle (e2_vl9 (E_b123.set 1 (2147483655, 2147483655, 1, 0))) s_b121.2.1 as_b123) (e2_if (e2_pre s_b121.2.2.1.length s_b121.2.2.1 0 (E_b123.set 1 (2147483655, 2147483655, 1, 0))) (e2_if (e2_hlf (E_b123.set 1 (2147483655, 2147483655, 1, 0)) 8 s_b121.2.2.2.1 f_b123) (e2_allR s_b121.2.2.2.2 fun q => e2_fin rs_b123 q.1 (E_b123.set 1 (2147483655, 2147483655, 1, 0)) (e2_mrg 8 s_b121.2.2.2.1 q.2 f_b123)))) = true := by decide +kernel
set_option maxRecDepth 1000000 in
theorem cp_b123_8 : e2_if (e2_lle (e2_vl9 (E_b123.set 1 (2147483656, 2147483656, 1, 0))) s_b122.2.1 as_b123) (e2_if (e2_pre s_b122.2.2.1.length s_b122.2.2.1 0 (E_b123.set 1 (2147483656, 2147483656, 1, 0))) (e2_if (e2_hlf (E_b123.set 1 (2147483656, 2147483656, 1, 0)) 8 s_b122.2.2.2.1 f_b123) (e2_allR s_b122.2.2.2.2 fun q => e2_fin rs_b123 q.1 (E_b123.set 1 (2147483656, 2147483656, 1, 0)) (e2_mrg 8 s_b122.2.2.2.1 q.2 f_b123)))) = true := by decide +kernel
theorem cs_b123 (hen : en_ok) (l : Launch) : e2_smOk l 5 s_b123 := by
  refine ⟨e2_okSB_ok co_b123, fun M hM d hd => e2_Met.split1 (E := E_b123) (lo := 2147483648) (hi := 2147483656) rfl fun s h1 h2 => ?_⟩
  have hs : s = 2147483648 ∨ s = 2147483649 ∨ s = 2147483650 ∨ s = 2147483651 ∨ s = 2147483652 ∨ s = 2147483653 ∨ s = 2147483654 ∨ s = 2147483655 ∨ s = 2147483656 := by omega
  rcases hs with rfl | rfl | rfl | rfl | rfl | rfl | rfl | rfl | rfl
  · exact e2_part1 (s := s_b114) (cs_b114 hen l) hM (Nat.le_trans (by decide) hd) cp_b123_0
  · exact e2_part1 (s := s_b115) (cs_b115 hen l) hM (Nat.le_trans (by decide) hd) cp_b123_1
  · exact e2_part1 (s := s_b116) (cs_b116 hen l) hM (Nat.le_trans (by decide) hd) cp_b123_2
  · exact e2_part1 (s := s_b117) (cs_b117 hen l) hM (Nat.le_trans (by decide) hd) cp_b123_3
  · exact e2_part1 (s := s_b118) (cs_b118 hen l) hM (Nat.le_trans (by decide) hd) cp_b123_4
  · exact e2_part1 (s := s_b119) (cs_b119 hen l) hM (Nat.le_trans (by decide) hd) cp_b123_5
  · exact e2_part1 (s := s_b120) (cs_b120 hen l) hM (Nat.le_trans (by decide) hd) cp_b123_6
  · exact e2_part1 (s := s_b121) (cs_b121 hen l) hM (Nat.le_trans (by decide) hd) cp_b123_7
  · exact e2_part1 (s := s_b122) (cs_b122 hen l) hM (Nat.le_trans (by decide) hd) cp_b123_8
