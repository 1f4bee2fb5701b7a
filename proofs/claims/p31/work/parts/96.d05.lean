/-! CONTRACTS d, printed by a program -/
/-! d94 X10_nextAt -/
def as_d94 : List ev_V := [(2, 83, 0), (0, 0, 0), (0, 8, 0), (11, 0, 4294967295)]
def E_d94 : e2_E := [(2147483648, 2147583648, 0, 0), (2147483648, 2147483656, 1, 0), (2147483648, 2147483688, 2, 0), (2147483648, 2147483688, 3, 0), (2147483648, 2147483668, 4, 0)]
def dc190 : ev_C := (10, [(0, 1, 0), (2, 88, 0), (2, 115, 0), (2, 114, 0), (2, 86, 0), (2, 112, 0), (11, 2147483648, 2147483688), (2, 118, 0), (2, 120, 0), (2, 131, 0), (2, 91, 0), (1, 4, 4294967296), (2, 123, 0), (11, 2147483648, 2147483649), (11, 2147483648, 2147485248), (2, 87, 0), (2, 84, 0), (2, 122, 0), (2, 100, 0), (2, 132, 0), (11, 2147483648, 2147483668), (11, 2147483648, 2147485248), (1, 0, 4294967296), (11, 0, 4294967295), (11, 2147483648, 2147485248), (2, 93, 0), (2, 104, 0), (11, 2147483648, 2147483678), (2, 89, 0), (2, 92, 0), (2, 119, 0), (2, 90, 0), (2, 94, 0), (2, 103, 0), (0, 0, 0), (11, 0, 4294967295), (11, 0, 4294967295), (11, 2147483648, 2147485249), (11, 2147483648, 2147483653), (11, 2147483648, 2147483668), (2, 85, 0), (11, 2147483648, 2147493647), (5, 0, 0), (2, 95, 0), (2, 96, 0), (2, 97, 0), (2, 98, 0), (2, 99, 0), (2, 101, 0), (2, 102, 0), (2, 105, 0), (2, 106, 0), (2, 107, 0), (2, 108, 0), (2, 109, 0), (2, 110, 0), (2, 111, 0), (11, 2147483648, 2147484768), (11, 2147482048, 2147483655), (11, 2147483648, 2147483738), (11, 2147483648, 2147483678), (11, 0, 4294967295), (11, 0, 4294967295), (11, 0, 4294967295), (11, 0, 4294967295), (11, 0, 4294967295), (2, 113, 0), (2, 116, 0), (2, 117, 0), (2, 121, 0), (11, 0, 4294967295), (11, 0, 4294967295), (2, 124, 0), (2, 125, 0), (11, 0, 4294967295), (2, 126, 0), (2, 127, 0), (2, 128, 0), (2, 129, 0), (2, 130, 0)])
def dn1022 : e2_Q1 := (dc190, dc3)
def dn1023 : e2_Q2 := (dn197, dn1022)
def dn1024 : e2_Q3 := (dn1023, dn447)
def dn1025 : e2_Q4 := (dn196, dn1024)
def dn1026 : e2_Q5 := (dn1025, dn219)
def dn1027 : e2_Q6 := (dn1026, dn251)
def dn1028 : e2_Q7 := (dn389, dn1027)
def dn1029 : e2_Q8 := (dn461, dn1028)
noncomputable def f_d94 : ev_H := (dn1029 : e2_Q8)
noncomputable def q_d94_0 : ev_H := (dn1029 : e2_Q8)
noncomputable def rs_d94 : e2_Rs := [((12, 9, 2147483647), q_d94_0)]
noncomputable def s_d94 : e2_Sm := (231, as_d94, E_d94, f_d94, rs_d94)
noncomputable def S_d94 : List e2_Sm := []
noncomputable def I_d94 : List e2_In := [(216, 1, e2x_216), (217, 1, e2x_217), (225, 5, e2x_225), (226, 3, e2x_226), (227, 2, e2x_227)]
set_option maxRecDepth 1000000 in
theorem co_d94 : e2_okSB E_d94.length as_d94 f_d94 rs_d94 = true := by decide +kernel
def al_d94_0 : List ev_V := [(2, 83, 0), (0, 0, 0), (0, 8, 0), (11, 0, 4294967295), (1, 5, 4294967296), (9, 0, 0)]
def E_d94_0 : e2_E := [(2147483648, 2147583648, 0, 0), (2147483648, 2147483656, 1, 0), (2147483648, 2147483688, 2, 0), (2147483648, 2147483688, 3, 0), (2147483648, 2147483668, 4, 0), (2147483648, 2147483656, 5, 0)]
noncomputable def h_d94_0 : ev_H := (dn1029 : e2_Q8)
noncomputable def cl_d94_e : List (Nat × e2_S) := [(3, e2_cutL (al_d94_0.set 4 (11, 2147483648, 2147483656)) 5 (E_d94_0.take 5) h_d94_0)]
set_option maxRecDepth 1000000 in
theorem ck_d94_e : e2_run (e2_cal S_d94 I_d94 4000 2) (e2_fin rs_d94) e2x_231 (e2_bpL cl_d94_e) (e2_cutA cl_d94_e) 4000 (e2_seek e2x_231 0) (e2_al 6 as_d94) [] E_d94 f_d94 = true := by decide +kernel
noncomputable def cl_d94_0 : List (Nat × e2_S) := [(3, e2_cutL (al_d94_0.set 4 (13, 13, 2147483656)) 5 (E_d94_0.take 5) h_d94_0)]
set_option maxRecDepth 1000000 in
theorem ck_d94_0 : e2_runM (e2_cal S_d94 I_d94 4000 2) (e2_fin rs_d94) e2x_231 (e2_bpL cl_d94_0) (e2_cutA cl_d94_0) 4000 (e2_seek e2x_231 3) al_d94_0 [] E_d94_0 h_d94_0 = true := by decide +kernel
set_option maxRecDepth 1000000 in
theorem ci_d94_0 : e2_idl 5 (al_d94_0.set 4 (9, 0, 0)) = true := by decide +kernel
set_option maxRecDepth 1000000 in
theorem cj_d94_0 : e2_idh 5 8 h_d94_0 = true := by decide +kernel
theorem cs_d94 (hen : en_ok) (l : Launch) : e2_smOk l 3 s_d94 := by
  refine e2_conG (H := 0) (n := 2) (C := evd_231) (S := S_d94) (I := I_d94) (fuel := 4000) hen ei_231 e2_fz (e2_fa ein_216 (e2_fa ein_217 (e2_fa ein_225 (e2_fa ein_226 (e2_fa ein_227 e2_fz))))) (by decide) co_d94 fun M d _ hC hcall p e R s m args below meth c Q D cA A ads r0 ha hl0 => ?_
  have L_0 : e2_gdM M p l e R s m args below meth c Q D cA A ads r0 3 al_d94_0 [] E_d94_0 h_d94_0 := by
    refine e2_indL (u := 5) (j := 4) (lo := 2147483648) (hi := 2147483656) (b := 5) (dd := 0) hl0 (by decide) rfl rfl (Or.inr ⟨rfl, rfl⟩) rfl ci_d94_0 cj_d94_0 ?_
    intro r_0 k_0 hk_0 hp_0 hs_0 hn_0
    have hl_0 : r_0.length ≤ 6 := hs_0.len rfl
    have ha_0 := ha.ext hp_0
    exact e2_fromM hen ha_0 hcall (e2_cutA_ok (e2_fa (fun al st E h hc => hn_0 al st E h hc) e2_fz)) (hC [3]) (X := e2x_231) ex2_231 3 ck_d94_0
  have EN_0 := e2_entL (u := 5) (j := 4) (lo := 2147483648) (hi := 2147483656) hl0 rfl rfl rfl ci_d94_0 cj_d94_0 L_0
  exact e2_from hen ha hcall (e2_cutA_ok (e2_fa (fun al st E h hc => EN_0 al st E h hc) e2_fz)) (hC [3]) (X := e2x_231) ex2_231 0 ck_d94_e
/-! d95 X10_nextAt -/
def as_d95 : List ev_V := [(2, 83, 0), (0, 1, 0), (11, 2147483648, 2147483656), (11, 0, 4294967295)]
def E_d95 : e2_E := [(2147483648, 2147583648, 0, 0), (2147483648, 2147483656, 1, 0), (2147483648, 2147483688, 2, 0), (2147483648, 2147483688, 3, 0), (2147483648, 2147483668, 4, 0)]
def dn1030 : e2_Q8 := (dn446, dn1028)
noncomputable def f_d95 : ev_H := (dn1030 : e2_Q8)
noncomputable def q_d95_0 : ev_H := (dn1030 : e2_Q8)
noncomputable def rs_d95 : e2_Rs := [((12, 9, 2147483647), q_d95_0)]
noncomputable def s_d95 : e2_Sm := (231, as_d95, E_d95, f_d95, rs_d95)
noncomputable def S_d95 : List e2_Sm := []
noncomputable def I_d95 : List e2_In := [(215, 2, e2x_215), (216, 1, e2x_216), (217, 1, e2x_217), (225, 5, e2x_225), (226, 3, e2x_226), (227, 2, e2x_227)]
set_option maxRecDepth 1000000 in
theorem co_d95 : e2_okSB E_d95.length as_d95 f_d95 rs_d95 = true := by decide +kernel
def al_d95_0 : List ev_V := [(2, 83, 0), (0, 1, 0), (11, 2147483648, 2147483656), (11, 0, 4294967295), (1, 5, 4294967296), (9, 0, 0)]
def E_d95_0 : e2_E := [(2147483648, 2147583648, 0, 0), (2147483648, 2147483656, 1, 0), (2147483648, 2147483688, 2, 0), (2147483648, 2147483688, 3, 0), (2147483648, 2147483668, 4, 0), (2147483648, 2147483656, 5, 0)]
noncomputable def h_d95_0 : ev_H := (dn1030 : e2_Q8)
noncomputable def cl_d95_e : List (Nat × e2_S) := [(3, e2_cutL (al_d95_0.set 4 (11, 2147483648, 2147483656)) 5 (E_d95_0.take 5) h_d95_0)]
set_option maxRecDepth 1000000 in
theorem ck_d95_e : e2_run (e2_cal S_d95 I_d95 4000 2) (e2_fin rs_d95) e2x_231 (e2_bpL cl_d95_e) (e2_cutA cl_d95_e) 4000 (e2_seek e2x_231 0) (e2_al 6 as_d95) [] E_d95 f_d95 = true := by decide +kernel
noncomputable def cl_d95_0 : List (Nat × e2_S) := [(3, e2_cutL (al_d95_0.set 4 (13, 13, 2147483656)) 5 (E_d95_0.take 5) h_d95_0)]
set_option maxRecDepth 1000000 in
theorem ck_d95_0 : e2_runM (e2_cal S_d95 I_d95 4000 2) (e2_fin rs_d95) e2x_231 (e2_bpL cl_d95_0) (e2_cutA cl_d95_0) 4000 (e2_seek e2x_231 3) al_d95_0 [] E_d95_0 h_d95_0 = true := by decide +kernel
set_option maxRecDepth 1000000 in
theorem ci_d95_0 : e2_idl 5 (al_d95_0.set 4 (9, 0, 0)) = true := by decide +kernel
set_option maxRecDepth 1000000 in
theorem cj_d95_0 : e2_idh 5 8 h_d95_0 = true := by decide +kernel
theorem cs_d95 (hen : en_ok) (l : Launch) : e2_smOk l 3 s_d95 := by
  refine e2_conG (H := 0) (n := 2) (C := evd_231) (S := S_d95) (I := I_d95) (fuel := 4000) hen ei_231 e2_fz (e2_fa ein_215 (e2_fa ein_216 (e2_fa ein_217 (e2_fa ein_225 (e2_fa ein_226 (e2_fa ein_227 e2_fz)))))) (by decide) co_d95 fun M d _ hC hcall p e R s m args below meth c Q D cA A ads r0 ha hl0 => ?_
  have L_0 : e2_gdM M p l e R s m args below meth c Q D cA A ads r0 3 al_d95_0 [] E_d95_0 h_d95_0 := by
    refine e2_indL (u := 5) (j := 4) (lo := 2147483648) (hi := 2147483656) (b := 5) (dd := 0) hl0 (by decide) rfl rfl (Or.inr ⟨rfl, rfl⟩) rfl ci_d95_0 cj_d95_0 ?_
    intro r_0 k_0 hk_0 hp_0 hs_0 hn_0
    have hl_0 : r_0.length ≤ 6 := hs_0.len rfl
    have ha_0 := ha.ext hp_0
    exact e2_fromM hen ha_0 hcall (e2_cutA_ok (e2_fa (fun al st E h hc => hn_0 al st E h hc) e2_fz)) (hC [3]) (X := e2x_231) ex2_231 3 ck_d95_0
  have EN_0 := e2_entL (u := 5) (j := 4) (lo := 2147483648) (hi := 2147483656) hl0 rfl rfl rfl ci_d95_0 cj_d95_0 L_0
  exact e2_from hen ha hcall (e2_cutA_ok (e2_fa (fun al st E h hc => EN_0 al st E h hc) e2_fz)) (hC [3]) (X := e2x_231) ex2_231 0 ck_d95_e
/-! d96 X10_nextAt -/
def as_d96 : List ev_V := [(2, 83, 0), (0, 10, 0), (11, 2147483648, 2147483656), (11, 0, 4294967295)]
def E_d96 : e2_E := [(2147483648, 2147583648, 0, 0), (2147483648, 2147483656, 1, 0), (2147483648, 2147483688, 2, 0), (2147483648, 2147483688, 3, 0), (2147483648, 2147483668, 4, 0)]
noncomputable def f_d96 : ev_H := (dn1030 : e2_Q8)
noncomputable def q_d96_0 : ev_H := (dn1030 : e2_Q8)
noncomputable def rs_d96 : e2_Rs := [((12, 9, 2147483647), q_d96_0)]
noncomputable def s_d96 : e2_Sm := (231, as_d96, E_d96, f_d96, rs_d96)
noncomputable def S_d96 : List e2_Sm := []
noncomputable def I_d96 : List e2_In := [(215, 2, e2x_215), (216, 1, e2x_216), (217, 1, e2x_217), (225, 5, e2x_225), (226, 3, e2x_226), (227, 2, e2x_227)]
set_option maxRecDepth 1000000 in
theorem co_d96 : e2_okSB E_d96.length as_d96 f_d96 rs_d96 = true := by decide +kernel
def al_d96_0 : List ev_V := [(2, 83, 0), (0, 10, 0), (11, 2147483648, 2147483656), (11, 0, 4294967295), (1, 5, 4294967296), (9, 0, 0)]
def E_d96_0 : e2_E := [(2147483648, 2147583648, 0, 0), (2147483648, 2147483656, 1, 0), (2147483648, 2147483688, 2, 0), (2147483648, 2147483688, 3, 0), (2147483648, 2147483668, 4, 0), (2147483648, 2147483656, 5, 0)]
noncomputable def h_d96_0 : ev_H := (dn1030 : e2_Q8)
noncomputable def cl_d96_e : List (Nat × e2_S) := [(3, e2_cutL (al_d96_0.set 4 (11, 2147483648, 2147483656)) 5 (E_d96_0.take 5) h_d96_0)]
set_option maxRecDepth 1000000 in
theorem ck_d96_e : e2_run (e2_cal S_d96 I_d96 4000 2) (e2_fin rs_d96) e2x_231 (e2_bpL cl_d96_e) (e2_cutA cl_d96_e) 4000 (e2_seek e2x_231 0) (e2_al 6 as_d96) [] E_d96 f_d96 = true := by decide +kernel
noncomputable def cl_d96_0 : List (Nat × e2_S) := [(3, e2_cutL (al_d96_0.set 4 (13, 13, 2147483656)) 5 (E_d96_0.take 5) h_d96_0)]
set_option maxRecDepth 1000000 in
theorem ck_d96_0 : e2_runM (e2_cal S_d96 I_d96 4000 2) (e2_fin rs_d96) e2x_231 (e2_bpL cl_d96_0) (e2_cutA cl_d96_0) 4000 (e2_seek e2x_231 3) al_d96_0 [] E_d96_0 h_d96_0 = true := by decide +kernel
set_option maxRecDepth 1000000 in
theorem ci_d96_0 : e2_idl 5 (al_d96_0.set 4 (9, 0, 0)) = true := by decide +kernel
set_option maxRecDepth 1000000 in
theorem cj_d96_0 : e2_idh 5 8 h_d96_0 = true := by decide +kernel
theorem cs_d96 (hen : en_ok) (l : Launch) : e2_smOk l 3 s_d96 := by
  refine e2_conG (H := 0) (n := 2) (C := evd_231) (S := S_d96) (I := I_d96) (fuel := 4000) hen ei_231 e2_fz (e2_fa ein_215 (e2_fa ein_216 (e2_fa ein_217 (e2_fa ein_225 (e2_fa ein_226 (e2_fa ein_227 e2_fz)))))) (by decide) co_d96 fun M d _ hC hcall p e R s m args below meth c Q D cA A ads r0 ha hl0 => ?_
  have L_0 : e2_gdM M p l e R s m args below meth c Q D cA A ads r0 3 al_d96_0 [] E_d96_0 h_d96_0 := by
    refine e2_indL (u := 5) (j := 4) (lo := 2147483648) (hi := 2147483656) (b := 5) (dd := 0) hl0 (by decide) rfl rfl (Or.inr ⟨rfl, rfl⟩) rfl ci_d96_0 cj_d96_0 ?_
    intro r_0 k_0 hk_0 hp_0 hs_0 hn_0
    have hl_0 : r_0.length ≤ 6 := hs_0.len rfl
    have ha_0 := ha.ext hp_0
    exact e2_fromM hen ha_0 hcall (e2_cutA_ok (e2_fa (fun al st E h hc => hn_0 al st E h hc) e2_fz)) (hC [3]) (X := e2x_231) ex2_231 3 ck_d96_0
  have EN_0 := e2_entL (u := 5) (j := 4) (lo := 2147483648) (hi := 2147483656) hl0 rfl rfl rfl ci_d96_0 cj_d96_0 L_0
  exact e2_from hen ha hcall (e2_cutA_ok (e2_fa (fun al st E h hc => EN_0 al st E h hc) e2_fz)) (hC [3]) (X := e2x_231) ex2_231 0 ck_d96_e
/-! d97 X10_nextAt -/
def as_d97 : List ev_V := [(2, 83, 0), (0, 11, 0), (11, 2147483648, 2147483656), (11, 0, 4294967295)]
def E_d97 : e2_E := [(2147483648, 2147583648, 0, 0), (2147483648, 2147483656, 1, 0), (2147483648, 2147483688, 2, 0), (2147483648, 2147483688, 3, 0), (2147483648, 2147483668, 4, 0)]
noncomputable def f_d97 : ev_H := (dn1030 : e2_Q8)
noncomputable def q_d97_0 : ev_H := (dn1030 : e2_Q8)
noncomputable def rs_d97 : e2_Rs := [((12, 9, 2147483647), q_d97_0)]
noncomputable def s_d97 : e2_Sm := (231, as_d97, E_d97, f_d97, rs_d97)
noncomputable def S_d97 : List e2_Sm := []
noncomputable def I_d97 : List e2_In := [(215, 2, e2x_215), (216, 1, e2x_216), (217, 1, e2x_217), (225, 5, e2x_225), (226, 3, e2x_226), (227, 2, e2x_227)]
set_option maxRecDepth 1000000 in
theorem co_d97 : e2_okSB E_d97.length as_d97 f_d97 rs_d97 = true := by decide +kernel
def al_d97_0 : List ev_V := [(2, 83, 0), (0, 11, 0), (11, 2147483648, 2147483656), (11, 0, 4294967295), (1, 5, 4294967296), (9, 0, 0)]
def E_d97_0 : e2_E := [(2147483648, 2147583648, 0, 0), (2147483648, 2147483656, 1, 0), (2147483648, 2147483688, 2, 0), (2147483648, 2147483688, 3, 0), (2147483648, 2147483668, 4, 0), (2147483648, 2147483656, 5, 0)]
noncomputable def h_d97_0 : ev_H := (dn1030 : e2_Q8)
noncomputable def cl_d97_e : List (Nat × e2_S) := [(3, e2_cutL (al_d97_0.set 4 (11, 2147483648, 2147483656)) 5 (E_d97_0.take 5) h_d97_0)]
set_option maxRecDepth 1000000 in
theorem ck_d97_e : e2_run (e2_cal S_d97 I_d97 4000 2) (e2_fin rs_d97) e2x_231 (e2_bpL cl_d97_e) (e2_cutA cl_d97_e) 4000 (e2_seek e2x_231 0) (e2_al 6 as_d97) [] E_d97 f_d97 = true := by decide +kernel
noncomputable def cl_d97_0 : List (Nat × e2_S) := [(3, e2_cutL (al_d97_0.set 4 (13, 13, 2147483656)) 5 (E_d97_0.take 5) h_d97_0)]
set_option maxRecDepth 1000000 in
theorem ck_d97_0 : e2_runM (e2_cal S_d97 I_d97 4000 2) (e2_fin rs_d97) e2x_231 (e2_bpL cl_d97_0) (e2_cutA cl_d97_0) 4000 (e2_seek e2x_231 3) al_d97_0 [] E_d97_0 h_d97_0 = true := by decide +kernel
set_option maxRecDepth 1000000 in
theorem ci_d97_0 : e2_idl 5 (al_d97_0.set 4 (9, 0, 0)) = true := by decide +kernel
set_option maxRecDepth 1000000 in
theorem cj_d97_0 : e2_idh 5 8 h_d97_0 = true := by decide +kernel
theorem cs_d97 (hen : en_ok) (l : Launch) : e2_smOk l 3 s_d97 := by
  refine e2_conG (H := 0) (n := 2) (C := evd_231) (S := S_d97) (I := I_d97) (fuel := 4000) hen ei_231 e2_fz (e2_fa ein_215 (e2_fa ein_216 (e2_fa ein_217 (e2_fa ein_225 (e2_fa ein_226 (e2_fa ein_227 e2_fz)))))) (by decide) co_d97 fun M d _ hC hcall p e R s m args below meth c Q D cA A ads r0 ha hl0 => ?_
  have L_0 : e2_gdM M p l e R s m args below meth c Q D cA A ads r0 3 al_d97_0 [] E_d97_0 h_d97_0 := by
    refine e2_indL (u := 5) (j := 4) (lo := 2147483648) (hi := 2147483656) (b := 5) (dd := 0) hl0 (by decide) rfl rfl (Or.inr ⟨rfl, rfl⟩) rfl ci_d97_0 cj_d97_0 ?_
    intro r_0 k_0 hk_0 hp_0 hs_0 hn_0
    have hl_0 : r_0.length ≤ 6 := hs_0.len rfl
    have ha_0 := ha.ext hp_0
    exact e2_fromM hen ha_0 hcall (e2_cutA_ok (e2_fa (fun al st E h hc => hn_0 al st E h hc) e2_fz)) (hC [3]) (X := e2x_231) ex2_231 3 ck_d97_0
  have EN_0 := e2_entL (u := 5) (j := 4) (lo := 2147483648) (hi := 2147483656) hl0 rfl rfl rfl ci_d97_0 cj_d97_0 L_0
  exact e2_from hen ha hcall (e2_cutA_ok (e2_fa (fun al st E h hc => EN_0 al st E h hc) e2_fz)) (hC [3]) (X := e2x_231) ex2_231 0 ck_d97_e
/-! d98 X10_nextAt -/
def as_d98 : List ev_V := [(2, 83, 0), (0, 12, 0), (11, 2147483648, 2147483656), (11, 0, 4294967295)]
def E_d98 : e2_E := [(2147483648, 2147583648, 0, 0), (2147483648, 2147483656, 1, 0), (2147483648, 2147483688, 2, 0), (2147483648, 2147483688, 3, 0), (2147483648, 2147483668, 4, 0)]
noncomputable def f_d98 : ev_H := (dn1030 : e2_Q8)
noncomputable def q_d98_0 : ev_H := (dn1030 : e2_Q8)
noncomputable def rs_d98 : e2_Rs := [((12, 9, 2147483647), q_d98_0)]
noncomputable def s_d98 : e2_Sm := (231, as_d98, E_d98, f_d98, rs_d98)
noncomputable def S_d98 : List e2_Sm := []
noncomputable def I_d98 : List e2_In := [(215, 2, e2x_215), (216, 1, e2x_216), (217, 1, e2x_217), (225, 5, e2x_225), (226, 3, e2x_226), (227, 2, e2x_227)]
set_option maxRecDepth 1000000 in
theorem co_d98 : e2_okSB E_d98.length as_d98 f_d98 rs_d98 = true := by decide +kernel
def al_d98_0 : List ev_V := [(2, 83, 0), (0, 12, 0), (11, 2147483648, 2147483656), (11, 0, 4294967295), (1, 5, 4294967296), (9, 0, 0)]
def E_d98_0 : e2_E := [(2147483648, 2147583648, 0, 0), (2147483648, 2147483656, 1, 0), (2147483648, 2147483688, 2, 0), (2147483648, 2147483688, 3, 0), (2147483648, 2147483668, 4, 0), (2147483648, 2147483656, 5, 0)]
noncomputable def h_d98_0 : ev_H := (dn1030 : e2_Q8)
noncomputable def cl_d98_e : List (Nat × e2_S) := [(3, e2_cutL (al_d98_0.set 4 (11, 2147483648, 2147483656)) 5 (E_d98_0.take 5) h_d98_0)]
set_option maxRecDepth 1000000 in
theorem ck_d98_e : e2_run (e2_cal S_d98 I_d98 4000 2) (e2_fin rs_d98) e2x_231 (e2_bpL cl_d98_e) (e2_cutA cl_d98_e) 4000 (e2_seek e2x_231 0) (e2_al 6 as_d98) [] E_d98 f_d98 = true := by decide +kernel
noncomputable def cl_d98_0 : List (Nat × e2_S) := [(3, e2_cutL (al_d98_0.set 4 (13, 13, 2147483656)) 5 (E_d98_0.take 5) h_d98_0)]
set_option maxRecDepth 1000000 in
theorem ck_d98_0 : e2_runM (e2_cal S_d98 I_d98 4000 2) (e2_fin rs_d98) e2x_231 (e2_bpL cl_d98_0) (e2_cutA cl_d98_0) 4000 (e2_seek e2x_231 3) al_d98_0 [] E_d98_0 h_d98_0 = true := by decide +kernel
set_option maxRecDepth 1000000 in
theorem ci_d98_0 : e2_idl 5 (al_d98_0.set 4 (9, 0, 0)) = true := by decide +kernel
set_option maxRecDepth 1000000 in
theorem cj_d98_0 : e2_idh 5 8 h_d98_0 = true := by decide +kernel
theorem cs_d98 (hen : en_ok) (l : Launch) : e2_smOk l 3 s_d98 := by
  refine e2_conG (H := 0) (n := 2) (C := evd_231) (S := S_d98) (I := I_d98) (fuel := 4000) hen ei_231 e2_fz (e2_fa ein_215 (e2_fa ein_216 (e2_fa ein_217 (e2_fa ein_225 (e2_fa ein_226 (e2_fa ein_227 e2_fz)))))) (by decide) co_d98 fun M d _ hC hcall p e R s m args below meth c Q D cA A ads r0 ha hl0 => ?_
  have L_0 : e2_gdM M p l e R s m args below meth c Q D cA A ads r0 3 al_d98_0 [] E_d98_0 h_d98_0 := by
    refine e2_indL (u := 5) (j := 4) (lo := 2147483648) (hi := 2147483656) (b := 5) (dd := 0) hl0 (by decide) rfl rfl (Or.inr ⟨rfl, rfl⟩) rfl ci_d98_0 cj_d98_0 ?_
    intro r_0 k_0 hk_0 hp_0 hs_0 hn_0
    have hl_0 : r_0.length ≤ 6 := hs_0.len rfl
    have ha_0 := ha.ext hp_0
    exact e2_fromM hen ha_0 hcall (e2_cutA_ok (e2_fa (fun al st E h hc => hn_0 al st E h hc) e2_fz)) (hC [3]) (X := e2x_231) ex2_231 3 ck_d98_0
  have EN_0 := e2_entL (u := 5) (j := 4) (lo := 2147483648) (hi := 2147483656) hl0 rfl rfl rfl ci_d98_0 cj_d98_0 L_0
  exact e2_from hen ha hcall (e2_cutA_ok (e2_fa (fun al st E h hc => EN_0 al st E h hc) e2_fz)) (hC [3]) (X := e2x_231) ex2_231 0 ck_d98_e
/-! d99 X10_nextAt -/
def as_d99 : List ev_V := [(2, 83, 0), (0, 13, 0), (11, 2147483648, 2147483656), (11, 0, 4294967295)]
def E_d99 : e2_E := [(2147483648, 2147583648, 0, 0), (2147483648, 2147483656, 1, 0), (2147483648, 2147483688, 2, 0), (2147483648, 2147483688, 3, 0), (2147483648, 2147483668, 4, 0)]
noncomputable def f_d99 : ev_H := (dn1030 : e2_Q8)
noncomputable def q_d99_0 : ev_H := (dn1030 : e2_Q8)
noncomputable def rs_d99 : e2_Rs := [((12, 9, 2147483647), q_d99_0)]
noncomputable def s_d99 : e2_Sm := (231, as_d99, E_d99, f_d99, rs_d99)
noncomputable def S_d99 : List e2_Sm := []
noncomputable def I_d99 : List e2_In := [(215, 2, e2x_215), (216, 1, e2x_216), (217, 1, e2x_217), (225, 5, e2x_225), (226, 3, e2x_226), (227, 2, e2x_227)]
set_option maxRecDepth 1000000 in
theorem co_d99 : e2_okSB E_d99.length as_d99 f_d99 rs_d99 = true := by decide +kernel
def al_d99_0 : List ev_V := [(2, 83, 0), (0, 13, 0), (11, 2147483648, 2147483656), (11, 0, 4294967295), (1, 5, 4294967296), (9, 0, 0)]
def E_d99_0 : e2_E := [(2147483648, 2147583648, 0, 0), (2147483648, 2147483656, 1, 0), (2147483648, 2147483688, 2, 0), (2147483648, 2147483688, 3, 0), (2147483648, 2147483668, 4, 0), (2147483648, 2147483656, 5, 0)]
noncomputable def h_d99_0 : ev_H := (dn1030 : e2_Q8)
noncomputable def cl_d99_e : List (Nat × e2_S) := [(3, e2_cutL (al_d99_0.set 4 (11, 2147483648, 2147483656)) 5 (E_d99_0.take 5) h_d99_0)]
set_option maxRecDepth 1000000 in
theorem ck_d99_e : e2_run (e2_cal S_d99 I_d99 4000 2) (e2_fin rs_d99) e2x_231 (e2_bpL cl_d99_e) (e2_cutA cl_d99_e) 4000 (e2_seek e2x_231 0) (e2_al 6 as_d99) [] E_d99 f_d99 = true := by decide +kernel
noncomputable def cl_d99_0 : List (Nat × e2_S) := [(3, e2_cutL (al_d99_0.set 4 (13, 13, 2147483656)) 5 (E_d99_0.take 5) h_d99_0)]
set_option maxRecDepth 1000000 in
theorem ck_d99_0 : e2_runM (e2_cal S_d99 I_d99 4000 2) (e2_fin rs_d99) e2x_231 (e2_bpL cl_d99_0) (e2_cutA cl_d99_0) 4000 (e2_seek e2x_231 3) al_d99_0 [] E_d99_0 h_d99_0 = true := by decide +kernel
set_option maxRecDepth 1000000 in
theorem ci_d99_0 : e2_idl 5 (al_d99_0.set 4 (9, 0, 0)) = true := by decide +kernel
set_option maxRecDepth 1000000 in
theorem cj_d99_0 : e2_idh 5 8 h_d99_0 = true := by decide +kernel
theorem cs_d99 (hen : en_ok) (l : Launch) : e2_smOk l 3 s_d99 := by
  refine e2_conG (H := 0) (n := 2) (C := evd_231) (S := S_d99) (I := I_d99) (fuel := 4000) hen ei_231 e2_fz (e2_fa ein_215 (e2_fa ein_216 (e2_fa ein_217 (e2_fa ein_225 (e2_fa ein_226 (e2_fa ein_227 e2_fz)))))) (by decide) co_d99 fun M d _ hC hcall p e R s m args below meth c Q D cA A ads r0 ha hl0 => ?_
  have L_0 : e2_gdM M p l e R s m args below meth c Q D cA A ads r0 3 al_d99_0 [] E_d99_0 h_d99_0 := by
    refine e2_indL (u := 5) (j := 4) (lo := 2147483648) (hi := 2147483656) (b := 5) (dd := 0) hl0 (by decide) rfl rfl (Or.inr ⟨rfl, rfl⟩) rfl ci_d99_0 cj_d99_0 ?_
    intro r_0 k_0 hk_0 hp_0 hs_0 hn_0
    have hl_0 : r_0.length ≤ 6 := hs_0.len rfl
    have ha_0 := ha.ext hp_0
    exact e2_fromM hen ha_0 hcall (e2_cutA_ok (e2_fa (fun al st E h hc => hn_0 al st E h hc) e2_fz)) (hC [3]) (X := e2x_231) ex2_231 3 ck_d99_0
  have EN_0 := e2_entL (u := 5) (j := 4) (lo := 2147483648) (hi := 2147483656) hl0 rfl rfl rfl ci_d99_0 cj_d99_0 L_0
  exact e2_from hen ha hcall (e2_cutA_ok (e2_fa (fun al st E h hc => EN_0 al st E h hc) e2_fz)) (hC [3]) (X := e2x_231) ex2_231 0 ck_d99_e
/-! d100 X10_nextAt -/
def as_d100 : List ev_V := [(2, 83, 0), (0, 14, 0), (11, 2147483648, 2147483656), (11, 0, 4294967295)]
def E_d100 : e2_E := [(2147483648, 2147583648, 0, 0), (2147483648, 2147483656, 1, 0), (2147483648, 2147483688, 2, 0), (2147483648, 2147483688, 3, 0), (2147483648, 2147483668, 4, 0)]
noncomputable def f_d100 : ev_H := (dn1030 : e2_Q8)
noncomputable def q_d100_0 : ev_H := (dn1030 : e2_Q8)
noncomputable def rs_d100 : e2_Rs := [((12, 9, 2147483647), q_d100_0)]
noncomputable def s_d100 : e2_Sm := (231, as_d100, E_d100, f_d100, rs_d100)
noncomputable def S_d100 : List e2_Sm := []
noncomputable def I_d100 : List e2_In := [(215, 2, e2x_215), (216, 1, e2x_216), (217, 1, e2x_217), (225, 5, e2x_225), (226, 3, e2x_226), (227, 2, e2x_227)]
set_option maxRecDepth 1000000 in
theorem co_d100 : e2_okSB E_d100.length as_d100 f_d100 rs_d100 = true := by decide +kernel
def al_d100_0 : List ev_V := [(2, 83, 0), (0, 14, 0), (11, 2147483648, 2147483656), (11, 0, 4294967295), (1, 5, 4294967296), (9, 0, 0)]
def E_d100_0 : e2_E := [(2147483648, 2147583648, 0, 0), (2147483648, 2147483656, 1, 0), (2147483648, 2147483688, 2, 0), (2147483648, 2147483688, 3, 0), (2147483648, 2147483668, 4, 0), (2147483648, 2147483656, 5, 0)]
noncomputable def h_d100_0 : ev_H := (dn1030 : e2_Q8)
noncomputable def cl_d100_e : List (Nat × e2_S) := [(3, e2_cutL (al_d100_0.set 4 (11, 2147483648, 2147483656)) 5 (E_d100_0.take 5) h_d100_0)]
set_option maxRecDepth 1000000 in
theorem ck_d100_e : e2_run (e2_cal S_d100 I_d100 4000 2) (e2_fin rs_d100) e2x_231 (e2_bpL cl_d100_e) (e2_cutA cl_d100_e) 4000 (e2_seek e2x_231 0) (e2_al 6 as_d100) [] E_d100 f_d100 = true := by decide +kernel
noncomputable def cl_d100_0 : List (Nat × e2_S) := [(3, e2_cutL (al_d100_0.set 4 (13, 13, 2147483656)) 5 (E_d100_0.take 5) h_d100_0)]
set_option maxRecDepth 1000000 in
theorem ck_d100_0 : e2_runM (e2_cal S_d100 I_d100 4000 2) (e2_fin rs_d100) e2x_231 (e2_bpL cl_d100_0) (e2_cutA cl_d100_0) 4000 (e2_seek e2x_231 3) al_d100_0 [] E_d100_0 h_d100_0 = true := by decide +kernel
set_option maxRecDepth 1000000 in
theorem ci_d100_0 : e2_idl 5 (al_d100_0.set 4 (9, 0, 0)) = true := by decide +kernel
set_option maxRecDepth 1000000 in
theorem cj_d100_0 : e2_idh 5 8 h_d100_0 = true := by decide +kernel
theorem cs_d100 (hen : en_ok) (l : Launch) : e2_smOk l 3 s_d100 := by
  refine e2_conG (H := 0) (n := 2) (C := evd_231) (S := S_d100) (I := I_d100) (fuel := 4000) hen ei_231 e2_fz (e2_fa ein_215 (e2_fa ein_216 (e2_fa ein_217 (e2_fa ein_225 (e2_fa ein_226 (e2_fa ein_227 e2_fz)))))) (by decide) co_d100 fun M d _ hC hcall p e R s m args below meth c Q D cA A ads r0 ha hl0 => ?_
  have L_0 : e2_gdM M p l e R s m args below meth c Q D cA A ads r0 3 al_d100_0 [] E_d100_0 h_d100_0 := by
    refine e2_indL (u := 5) (j := 4) (lo := 2147483648) (hi := 2147483656) (b := 5) (dd := 0) hl0 (by decide) rfl rfl (Or.inr ⟨rfl, rfl⟩) rfl ci_d100_0 cj_d100_0 ?_
    intro r_0 k_0 hk_0 hp_0 hs_0 hn_0
    have hl_0 : r_0.length ≤ 6 := hs_0.len rfl
    have ha_0 := ha.ext hp_0
    exact e2_fromM hen ha_0 hcall (e2_cutA_ok (e2_fa (fun al st E h hc => hn_0 al st E h hc) e2_fz)) (hC [3]) (X := e2x_231) ex2_231 3 ck_d100_0
  have EN_0 := e2_entL (u := 5) (j := 4) (lo := 2147483648) (hi := 2147483656) hl0 rfl rfl rfl ci_d100_0 cj_d100_0 L_0
  exact e2_from hen ha hcall (e2_cutA_ok (e2_fa (fun al st E h hc => EN_0 al st E h hc) e2_fz)) (hC [3]) (X := e2x_231) ex2_231 0 ck_d100_e
/-! d101 X10_nextAt -/
def as_d101 : List ev_V := [(2, 83, 0), (0, 15, 0), (11, 2147483648, 2147483656), (11, 0, 4294967295)]
def E_d101 : e2_E := [(2147483648, 2147583648, 0, 0), (2147483648, 2147483656, 1, 0), (2147483648, 2147483688, 2, 0), (2147483648, 2147483688, 3, 0), (2147483648, 2147483668, 4, 0)]
noncomputable def f_d101 : ev_H := (dn1030 : e2_Q8)
noncomputable def q_d101_0 : ev_H := (dn1030 : e2_Q8)
noncomputable def rs_d101 : e2_Rs := [((12, 9, 2147483647), q_d101_0)]
noncomputable def s_d101 : e2_Sm := (231, as_d101, E_d101, f_d101, rs_d101)
noncomputable def S_d101 : List e2_Sm := []
noncomputable def I_d101 : List e2_In := [(215, 2, e2x_215), (216, 1, e2x_216), (217, 1, e2x_217), (225, 5, e2x_225), (226, 3, e2x_226), (227, 2, e2x_227)]
set_option maxRecDepth 1000000 in
theorem co_d101 : e2_okSB E_d101.length as_d101 f_d101 rs_d101 = true := by decide +kernel
def al_d101_0 : List ev_V := [(2, 83, 0), (0, 15, 0), (11, 2147483648, 2147483656), (11, 0, 4294967295), (1, 5, 4294967296), (9, 0, 0)]
def E_d101_0 : e2_E := [(2147483648, 2147583648, 0, 0), (2147483648, 2147483656, 1, 0), (2147483648, 2147483688, 2, 0), (2147483648, 2147483688, 3, 0), (2147483648, 2147483668, 4, 0), (2147483648, 2147483656, 5, 0)]
noncomputable def h_d101_0 : ev_H := (dn1030 : e2_Q8)
noncomputable def cl_d101_e : List (Nat × e2_S) := [(3, e2_cutL (al_d101_0.set 4 (11, 2147483648, 2147483656)) 5 (E_d101_0.take 5) h_d101_0)]
set_option maxRecDepth 1000000 in
theorem ck_d101_e : e2_run (e2_cal S_d101 I_d101 4000 2) (e2_fin rs_d101) e2x_231 (e2_bpL cl_d101_e) (e2_cutA cl_d101_e) 4000 (e2_seek e2x_231 0) (e2_al 6 as_d101) [] E_d101 f_d101 = true := by decide +kernel
noncomputable def cl_d101_0 : List (Nat × e2_S) := [(3, e2_cutL (al_d101_0.set 4 (13, 13, 2147483656)) 5 (E_d101_0.take 5) h_d101_0)]
set_option maxRecDepth 1000000 in
theorem ck_d101_0 : e2_runM (e2_cal S_d101 I_d101 4000 2) (e2_fin rs_d101) e2x_231 (e2_bpL cl_d101_0) (e2_cutA cl_d101_0) 4000 (e2_seek e2x_231 3) al_d101_0 [] E_d101_0 h_d101_0 = true := by decide +kernel
set_option maxRecDepth 1000000 in
theorem ci_d101_0 : e2_idl 5 (al_d101_0.set 4 (9, 0, 0)) = true := by decide +kernel
set_option maxRecDepth 1000000 in
theorem cj_d101_0 : e2_idh 5 8 h_d101_0 = true := by decide +kernel
theorem cs_d101 (hen : en_ok) (l : Launch) : e2_smOk l 3 s_d101 := by
  refine e2_conG (H := 0) (n := 2) (C := evd_231) (S := S_d101) (I := I_d101) (fuel := 4000) hen ei_231 e2_fz (e2_fa ein_215 (e2_fa ein_216 (e2_fa ein_217 (e2_fa ein_225 (e2_fa ein_226 (e2_fa ein_227 e2_fz)))))) (by decide) co_d101 fun M d _ hC hcall p e R s m args below meth c Q D cA A ads r0 ha hl0 => ?_
  have L_0 : e2_gdM M p l e R s m args below meth c Q D cA A ads r0 3 al_d101_0 [] E_d101_0 h_d101_0 := by
    refine e2_indL (u := 5) (j := 4) (lo := 2147483648) (hi := 2147483656) (b := 5) (dd := 0) hl0 (by decide) rfl rfl (Or.inr ⟨rfl, rfl⟩) rfl ci_d101_0 cj_d101_0 ?_
    intro r_0 k_0 hk_0 hp_0 hs_0 hn_0
    have hl_0 : r_0.length ≤ 6 := hs_0.len rfl
    have ha_0 := ha.ext hp_0
    exact e2_fromM hen ha_0 hcall (e2_cutA_ok (e2_fa (fun al st E h hc => hn_0 al st E h hc) e2_fz)) (hC [3]) (X := e2x_231) ex2_231 3 ck_d101_0
  have EN_0 := e2_entL (u := 5) (j := 4) (lo := 2147483648) (hi := 2147483656) hl0 rfl rfl rfl ci_d101_0 cj_d101_0 L_0
  exact e2_from hen ha hcall (e2_cutA_ok (e2_fa (fun al st E h hc => EN_0 al st E h hc) e2_fz)) (hC [3]) (X := e2x_231) ex2_231 0 ck_d101_e
/-! d102 X10_nextAt -/
def as_d102 : List ev_V := [(2, 83, 0), (0, 16, 0), (11, 2147483648, 2147483656), (11, 0, 4294967295)]
def E_d102 : e2_E := [(2147483648, 2147583648, 0, 0), (2147483648, 2147483656, 1, 0), (2147483648, 2147483688, 2, 0), (2147483648, 2147483688, 3, 0), (2147483648, 2147483668, 4, 0)]
noncomputable def f_d102 : ev_H := (dn1030 : e2_Q8)
noncomputable def q_d102_0 : ev_H := (dn1030 : e2_Q8)
noncomputable def rs_d102 : e2_Rs := [((12, 9, 2147483647), q_d102_0)]
noncomputable def s_d102 : e2_Sm := (231, as_d102, E_d102, f_d102, rs_d102)
noncomputable def S_d102 : List e2_Sm := []
noncomputable def I_d102 : List e2_In := [(215, 2, e2x_215), (216, 1, e2x_216), (217, 1, e2x_217), (225, 5, e2x_225), (226, 3, e2x_226), (227, 2, e2x_227)]
set_option maxRecDepth 1000000 in
theorem co_d102 : e2_okSB E_d102.length as_d102 f_d102 rs_d102 = true := by decide +kernel
def al_d102_0 : List ev_V := [(2, 83, 0), (0, 16, 0), (11, 2147483648, 2147483656), (11, 0, 4294967295), (1, 5, 4294967296), (9, 0, 0)]
def E_d102_0 : e2_E := [(2147483648, 2147583648, 0, 0), (2147483648, 2147483656, 1, 0), (2147483648, 2147483688, 2, 0), (2147483648, 2147483688, 3, 0), (2147483648, 2147483668, 4, 0), (2147483648, 2147483656, 5, 0)]
noncomputable def h_d102_0 : ev_H := (dn1030 : e2_Q8)
noncomputable def cl_d102_e : List (Nat × e2_S) := [(3, e2_cutL (al_d102_0.set 4 (11, 2147483648, 2147483656)) 5 (E_d102_0.take 5) h_d102_0)]
set_option maxRecDepth 1000000 in
theorem ck_d102_e : e2_run (e2_cal S_d102 I_d102 4000 2) (e2_fin rs_d102) e2x_231 (e2_bpL cl_d102_e) (e2_cutA cl_d102_e) 4000 (e2_seek e2x_231 0) (e2_al 6 as_d102) [] E_d102 f_d102 = true := by decide +kernel
noncomputable def cl_d102_0 : List (Nat × e2_S) := [(3, e2_cutL (al_d102_0.set 4 (13, 13, 2147483656)) 5 (E_d102_0.take 5) h_d102_0)]
set_option maxRecDepth 1000000 in
theorem ck_d102_0 : e2_runM (e2_cal S_d102 I_d102 4000 2) (e2_fin rs_d102) e2x_231 (e2_bpL cl_d102_0) (e2_cutA cl_d102_0) 4000 (e2_seek e2x_231 3) al_d102_0 [] E_d102_0 h_d102_0 = true := by decide +kernel
set_option maxRecDepth 1000000 in
theorem ci_d102_0 : e2_idl 5 (al_d102_0.set 4 (9, 0, 0)) = true := by decide +kernel
set_option maxRecDepth 1000000 in
theorem cj_d102_0 : e2_idh 5 8 h_d102_0 = true := by decide +kernel
theorem cs_d102 (hen : en_ok) (l : Launch) : e2_smOk l 3 s_d102 := by
  refine e2_conG (H := 0) (n := 2) (C := evd_231) (S := S_d102) (I := I_d102) (fuel := 4000) hen ei_231 e2_fz (e2_fa ein_215 (e2_fa ein_216 (e2_fa ein_217 (e2_fa ein_225 (e2_fa ein_226 (e2_fa ein_227 e2_fz)))))) (by decide) co_d102 fun M d _ hC hcall p e R s m args below meth c Q D cA A ads r0 ha hl0 => ?_
  have L_0 : e2_gdM M p l e R s m args below meth c Q D cA A ads r0 3 al_d102_0 [] E_d102_0 h_d102_0 := by
    refine e2_indL (u := 5) (j := 4) (lo := 2147483648) (hi := 2147483656) (b := 5) (dd := 0) hl0 (by decide) rfl rfl (Or.inr ⟨rfl, rfl⟩) rfl ci_d102_0 cj_d102_0 ?_
    intro r_0 k_0 hk_0 hp_0 hs_0 hn_0
    have hl_0 : r_0.length ≤ 6 := hs_0.len rfl
    have ha_0 := ha.ext hp_0
    exact e2_fromM hen ha_0 hcall (e2_cutA_ok (e2_fa (fun al st E h hc => hn_0 al st E h hc) e2_fz)) (hC [3]) (X := e2x_231) ex2_231 3 ck_d102_0
  have EN_0 := e2_entL (u := 5) (j := 4) (lo := 2147483648) (hi := 2147483656) hl0 rfl rfl rfl ci_d102_0 cj_d102_0 L_0
  exact e2_from hen ha hcall (e2_cutA_ok (e2_fa (fun al st E h hc => EN_0 al st E h hc) e2_fz)) (hC [3]) (X := e2x_231) ex2_231 0 ck_d102_e
/-! d103 X10_nextAt -/
def as_d103 : List ev_V := [(2, 83, 0), (0, 17, 0), (11, 2147483648, 2147483656), (11, 0, 4294967295)]
def E_d103 : e2_E := [(2147483648, 2147583648, 0, 0), (2147483648, 2147483656, 1, 0), (2147483648, 2147483688, 2, 0), (2147483648, 2147483688, 3, 0), (2147483648, 2147483668, 4, 0)]
noncomputable def f_d103 : ev_H := (dn1030 : e2_Q8)
noncomputable def q_d103_0 : ev_H := (dn1030 : e2_Q8)
noncomputable def rs_d103 : e2_Rs := [((12, 9, 2147483647), q_d103_0)]
noncomputable def s_d103 : e2_Sm := (231, as_d103, E_d103, f_d103, rs_d103)
noncomputable def S_d103 : List e2_Sm := []
noncomputable def I_d103 : List e2_In := [(215, 2, e2x_215), (216, 1, e2x_216), (217, 1, e2x_217), (225, 5, e2x_225), (226, 3, e2x_226), (227, 2, e2x_227)]
set_option maxRecDepth 1000000 in
theorem co_d103 : e2_okSB E_d103.length as_d103 f_d103 rs_d103 = true := by decide +kernel
def al_d103_0 : List ev_V := [(2, 83, 0), (0, 17, 0), (11, 2147483648, 2147483656), (11, 0, 4294967295), (1, 5, 4294967296), (9, 0, 0)]
def E_d103_0 : e2_E := [(2147483648, 2147583648, 0, 0), (2147483648, 2147483656, 1, 0), (2147483648, 2147483688, 2, 0), (2147483648, 2147483688, 3, 0), (2147483648, 2147483668, 4, 0), (2147483648, 2147483656, 5, 0)]
noncomputable def h_d103_0 : ev_H := (dn1030 : e2_Q8)
noncomputable def cl_d103_e : List (Nat × e2_S) := [(3, e2_cutL (al_d103_0.set 4 (11, 2147483648, 2147483656)) 5 (E_d103_0.take 5) h_d103_0)]
set_option maxRecDepth 1000000 in
theorem ck_d103_e : e2_run (e2_cal S_d103 I_d103 4000 2) (e2_fin rs_d103) e2x_231 (e2_bpL cl_d103_e) (e2_cutA cl_d103_e) 4000 (e2_seek e2x_231 0) (e2_al 6 as_d103) [] E_d103 f_d103 = true := by decide +kernel
noncomputable def cl_d103_0 : List (Nat × e2_S) := [(3, e2_cutL (al_d103_0.set 4 (13, 13, 2147483656)) 5 (E_d103_0.take 5) h_d103_0)]
set_option maxRecDepth 1000000 in
theorem ck_d103_0 : e2_runM (e2_cal S_d103 I_d103 4000 2) (e2_fin rs_d103) e2x_231 (e2_bpL cl_d103_0) (e2_cutA cl_d103_0) 4000 (e2_seek e2x_231 3) al_d103_0 [] E_d103_0 h_d103_0 = true := by decide +kernel
set_option maxRecDepth 1000000 in
theorem ci_d103_0 : e2_idl 5 (al_d103_0.set 4 (9, 0, 0)) = true := by decide +kernel
set_option maxRecDepth 1000000 in
theorem cj_d103_0 : e2_idh 5 8 h_d103_0 = true := by decide +kernel
theorem cs_d103 (hen : en_ok) (l : Launch) : e2_smOk l 3 s_d103 := by
  refine e2_conG (H := 0) (n := 2) (C := evd_231) (S := S_d103) (I := I_d103) (fuel := 4000) hen ei_231 e2_fz (e2_fa ein_215 (e2_fa ein_216 (e2_fa ein_217 (e2_fa ein_225 (e2_fa ein_226 (e2_fa ein_227 e2_fz)))))) (by decide) co_d103 fun M d _ hC hcall p e R s m args below meth c Q D cA A ads r0 ha hl0 => ?_
  have L_0 : e2_gdM M p l e R s m args below meth c Q D cA A ads r0 3 al_d103_0 [] E_d103_0 h_d103_0 := by
    refine e2_indL (u := 5) (j := 4) (lo := 2147483648) (hi := 2147483656) (b := 5) (dd := 0) hl0 (by decide) rfl rfl (Or.inr ⟨rfl, rfl⟩) rfl ci_d103_0 cj_d103_0 ?_
    intro r_0 k_0 hk_0 hp_0 hs_0 hn_0
    have hl_0 : r_0.length ≤ 6 := hs_0.len rfl
    have ha_0 := ha.ext hp_0
    exact e2_fromM hen ha_0 hcall (e2_cutA_ok (e2_fa (fun al st E h hc => hn_0 al st E h hc) e2_fz)) (hC [3]) (X := e2x_231) ex2_231 3 ck_d103_0
  have EN_0 := e2_entL (u := 5) (j := 4) (lo := 2147483648) (hi := 2147483656) hl0 rfl rfl rfl ci_d103_0 cj_d103_0 L_0
  exact e2_from hen ha hcall (e2_cutA_ok (e2_fa (fun al st E h hc => EN_0 al st E h hc) e2_fz)) (hC [3]) (X := e2x_231) ex2_231 0 ck_d103_e
/-! d104 X10_nextAt -/
def as_d104 : List ev_V := [(2, 83, 0), (0, 18, 0), (11, 2147483648, 2147483656), (11, 0, 4294967295)]
def E_d104 : e2_E := [(2147483648, 2147583648, 0, 0), (2147483648, 2147483656, 1, 0), (2147483648, 2147483688, 2, 0), (2147483648, 2147483688, 3, 0), (2147483648, 2147483668, 4, 0)]
noncomputable def f_d104 : ev_H := (dn1030 : e2_Q8)
noncomputable def q_d104_0 : ev_H := (dn1030 : e2_Q8)
noncomputable def rs_d104 : e2_Rs := [((12, 9, 2147483647), q_d104_0)]
noncomputable def s_d104 : e2_Sm := (231, as_d104, E_d104, f_d104, rs_d104)
noncomputable def S_d104 : List e2_Sm := []
noncomputable def I_d104 : List e2_In := [(215, 2, e2x_215), (216, 1, e2x_216), (217, 1, e2x_217), (225, 5, e2x_225), (226, 3, e2x_226), (227, 2, e2x_227)]
set_option maxRecDepth 1000000 in
theorem co_d104 : e2_okSB E_d104.length as_d104 f_d104 rs_d104 = true := by decide +kernel
def al_d104_0 : List ev_V := [(2, 83, 0), (0, 18, 0), (11, 2147483648, 2147483656), (11, 0, 4294967295), (1, 5, 4294967296), (9, 0, 0)]
def E_d104_0 : e2_E := [(2147483648, 2147583648, 0, 0), (2147483648, 2147483656, 1, 0), (2147483648, 2147483688, 2, 0), (2147483648, 2147483688, 3, 0), (2147483648, 2147483668, 4, 0), (2147483648, 2147483656, 5, 0)]
noncomputable def h_d104_0 : ev_H := (dn1030 : e2_Q8)
noncomputable def cl_d104_e : List (Nat × e2_S) := [(3, e2_cutL (al_d104_0.set 4 (11, 2147483648, 2147483656)) 5 (E_d104_0.take 5) h_d104_0)]
set_option maxRecDepth 1000000 in
theorem ck_d104_e : e2_run (e2_cal S_d104 I_d104 4000 2) (e2_fin rs_d104) e2x_231 (e2_bpL cl_d104_e) (e2_cutA cl_d104_e) 4000 (e2_seek e2x_231 0) (e2_al 6 as_d104) [] E_d104 f_d104 = true := by decide +kernel
noncomputable def cl_d104_0 : List (Nat × e2_S) := [(3, e2_cutL (al_d104_0.set 4 (13, 13, 2147483656)) 5 (E_d104_0.take 5) h_d104_0)]
set_option maxRecDepth 1000000 in
theorem ck_d104_0 : e2_runM (e2_cal S_d104 I_d104 4000 2) (e2_fin rs_d104) e2x_231 (e2_bpL cl_d104_0) (e2_cutA cl_d104_0) 4000 (e2_seek e2x_231 3) al_d104_0 [] E_d104_0 h_d104_0 = true := by decide +kernel
set_option maxRecDepth 1000000 in
theorem ci_d104_0 : e2_idl 5 (al_d104_0.set 4 (9, 0, 0)) = true := by decide +kernel
set_option maxRecDepth 1000000 in
theorem cj_d104_0 : e2_idh 5 8 h_d104_0 = true := by decide +kernel
theorem cs_d104 (hen : en_ok) (l : Launch) : e2_smOk l 3 s_d104 := by
  refine e2_conG (H := 0) (n := 2) (C := evd_231) (S := S_d104) (I := I_d104) (fuel := 4000) hen ei_231 e2_fz (e2_fa ein_215 (e2_fa ein_216 (e2_fa ein_217 (e2_fa ein_225 (e2_fa ein_226 (e2_fa ein_227 e2_fz)))))) (by decide) co_d104 fun M d _ hC hcall p e R s m args below meth c Q D cA A ads r0 ha hl0 => ?_
  have L_0 : e2_gdM M p l e R s m args below meth c Q D cA A ads r0 3 al_d104_0 [] E_d104_0 h_d104_0 := by
    refine e2_indL (u := 5) (j := 4) (lo := 2147483648) (hi := 2147483656) (b := 5) (dd := 0) hl0 (by decide) rfl rfl (Or.inr ⟨rfl, rfl⟩) rfl ci_d104_0 cj_d104_0 ?_
    intro r_0 k_0 hk_0 hp_0 hs_0 hn_0
    have hl_0 : r_0.length ≤ 6 := hs_0.len rfl
    have ha_0 := ha.ext hp_0
    exact e2_fromM hen ha_0 hcall (e2_cutA_ok (e2_fa (fun al st E h hc => hn_0 al st E h hc) e2_fz)) (hC [3]) (X := e2x_231) ex2_231 3 ck_d104_0
  have EN_0 := e2_entL (u := 5) (j := 4) (lo := 2147483648) (hi := 2147483656) hl0 rfl rfl rfl ci_d104_0 cj_d104_0 L_0
  exact e2_from hen ha hcall (e2_cutA_ok (e2_fa (fun al st E h hc => EN_0 al st E h hc) e2_fz)) (hC [3]) (X := e2x_231) ex2_231 0 ck_d104_e
/-! d105 X10_nextAt -/
def as_d105 : List ev_V := [(2, 83, 0), (0, 19, 0), (11, 2147483648, 2147483656), (11, 0, 4294967295)]
def E_d105 : e2_E := [(2147483648, 2147583648, 0, 0), (2147483648, 2147483656, 1, 0), (2147483648, 2147483688, 2, 0), (2147483648, 2147483688, 3, 0), (2147483648, 2147483668, 4, 0)]
noncomputable def f_d105 : ev_H := (dn1030 : e2_Q8)
noncomputable def q_d105_0 : ev_H := (dn1030 : e2_Q8)
noncomputable def rs_d105 : e2_Rs := [((12, 9, 2147483647), q_d105_0)]
noncomputable def s_d105 : e2_Sm := (231, as_d105, E_d105, f_d105, rs_d105)
noncomputable def S_d105 : List e2_Sm := []
noncomputable def I_d105 : List e2_In := [(215, 2, e2x_215), (216, 1, e2x_216), (217, 1, e2x_217), (225, 5, e2x_225), (226, 3, e2x_226), (227, 2, e2x_227)]
set_option maxRecDepth 1000000 in
theorem co_d105 : e2_okSB E_d105.length as_d105 f_d105 rs_d105 = true := by decide +kernel
def al_d105_0 : List ev_V := [(2, 83, 0), (0, 19, 0), (11, 2147483648, 2147483656), (11, 0, 4294967295), (1, 5, 4294967296), (9, 0, 0)]
def E_d105_0 : e2_E := [(2147483648, 2147583648, 0, 0), (2147483648, 2147483656, 1, 0), (2147483648, 2147483688, 2, 0), (2147483648, 2147483688, 3, 0), (2147483648, 2147483668, 4, 0), (2147483648, 2147483656, 5, 0)]
noncomputable def h_d105_0 : ev_H := (dn1030 : e2_Q8)
noncomputable def cl_d105_e : List (Nat × e2_S) := [(3, e2_cutL (al_d105_0.set 4 (11, 2147483648, 2147483656)) 5 (E_d105_0.take 5) h_d105_0)]
set_option maxRecDepth 1000000 in
theorem ck_d105_e : e2_run (e2_cal S_d105 I_d105 4000 2) (e2_fin rs_d105) e2x_231 (e2_bpL cl_d105_e) (e2_cutA cl_d105_e) 4000 (e2_seek e2x_231 0) (e2_al 6 as_d105) [] E_d105 f_d105 = true := by decide +kernel
noncomputable def cl_d105_0 : List (Nat × e2_S) := [(3, e2_cutL (al_d105_0.set 4 (13, 13, 2147483656)) 5 (E_d105_0.take 5) h_d105_0)]
set_option maxRecDepth 1000000 in
theorem ck_d105_0 : e2_runM (e2_cal S_d105 I_d105 4000 2) (e2_fin rs_d105) e2x_231 (e2_bpL cl_d105_0) (e2_cutA cl_d105_0) 4000 (e2_seek e2x_231 3) al_d105_0 [] E_d105_0 h_d105_0 = true := by decide +kernel
set_option maxRecDepth 1000000 in
theorem ci_d105_0 : e2_idl 5 (al_d105_0.set 4 (9, 0, 0)) = true := by decide +kernel
set_option maxRecDepth 1000000 in
theorem cj_d105_0 : e2_idh 5 8 h_d105_0 = true := by decide +kernel
theorem cs_d105 (hen : en_ok) (l : Launch) : e2_smOk l 3 s_d105 := by
  refine e2_conG (H := 0) (n := 2) (C := evd_231) (S := S_d105) (I := I_d105) (fuel := 4000) hen ei_231 e2_fz (e2_fa ein_215 (e2_fa ein_216 (e2_fa ein_217 (e2_fa ein_225 (e2_fa ein_226 (e2_fa ein_227 e2_fz)))))) (by decide) co_d105 fun M d _ hC hcall p e R s m args below meth c Q D cA A ads r0 ha hl0 => ?_
  have L_0 : e2_gdM M p l e R s m args below meth c Q D cA A ads r0 3 al_d105_0 [] E_d105_0 h_d105_0 := by
    refine e2_indL (u := 5) (j := 4) (lo := 2147483648) (hi := 2147483656) (b := 5) (dd := 0) hl0 (by decide) rfl rfl (Or.inr ⟨rfl, rfl⟩) rfl ci_d105_0 cj_d105_0 ?_
    intro r_0 k_0 hk_0 hp_0 hs_0 hn_0
    have hl_0 : r_0.length ≤ 6 := hs_0.len rfl
    have ha_0 := ha.ext hp_0
    exact e2_fromM hen ha_0 hcall (e2_cutA_ok (e2_fa (fun al st E h hc => hn_0 al st E h hc) e2_fz)) (hC [3]) (X := e2x_231) ex2_231 3 ck_d105_0
  have EN_0 := e2_entL (u := 5) (j := 4) (lo := 2147483648) (hi := 2147483656) hl0 rfl rfl rfl ci_d105_0 cj_d105_0 L_0
  exact e2_from hen ha hcall (e2_cutA_ok (e2_fa (fun al st E h hc => EN_0 al st E h hc) e2_fz)) (hC [3]) (X := e2x_231) ex2_231 0 ck_d105_e
/-! d106 X10_nextAt -/
def as_d106 : List ev_V := [(2, 83, 0), (0, 2, 0), (11, 2147483648, 2147483656), (11, 0, 4294967295)]
def E_d106 : e2_E := [(2147483648, 2147583648, 0, 0), (2147483648, 2147483656, 1, 0), (2147483648, 2147483688, 2, 0), (2147483648, 2147483688, 3, 0), (2147483648, 2147483668, 4, 0)]
noncomputable def f_d106 : ev_H := (dn1030 : e2_Q8)
noncomputable def q_d106_0 : ev_H := (dn1030 : e2_Q8)
noncomputable def rs_d106 : e2_Rs := [((12, 9, 2147483647), q_d106_0)]
noncomputable def s_d106 : e2_Sm := (231, as_d106, E_d106, f_d106, rs_d106)
noncomputable def S_d106 : List e2_Sm := []
noncomputable def I_d106 : List e2_In := [(215, 2, e2x_215), (216, 1, e2x_216), (217, 1, e2x_217), (225, 5, e2x_225), (226, 3, e2x_226), (227, 2, e2x_227)]
set_option maxRecDepth 1000000 in
theorem co_d106 : e2_okSB E_d106.length as_d106 f_d106 rs_d106 = true := by decide +kernel
def al_d106_0 : List ev_V := [(2, 83, 0), (0, 2, 0), (11, 2147483648, 2147483656), (11, 0, 4294967295), (1, 5, 4294967296), (9, 0, 0)]
def E_d106_0 : e2_E := [(2147483648, 2147583648, 0, 0), (2147483648, 2147483656, 1, 0), (2147483648, 2147483688, 2, 0), (2147483648, 2147483688, 3, 0), (2147483648, 2147483668, 4, 0), (2147483648, 2147483656, 5, 0)]
noncomputable def h_d106_0 : ev_H := (dn1030 : e2_Q8)
noncomputable def cl_d106_e : List (Nat × e2_S) := [(3, e2_cutL (al_d106_0.set 4 (11, 2147483648, 2147483656)) 5 (E_d106_0.take 5) h_d106_0)]
set_option maxRecDepth 1000000 in
theorem ck_d106_e : e2_run (e2_cal S_d106 I_d106 4000 2) (e2_fin rs_d106) e2x_231 (e2_bpL cl_d106_e) (e2_cutA cl_d106_e) 4000 (e2_seek e2x_231 0) (e2_al 6 as_d106) [] E_d106 f_d106 = true := by decide +kernel
noncomputable def cl_d106_0 : List (Nat × e2_S) := [(3, e2_cutL (al_d106_0.set 4 (13, 13, 2147483656)) 5 (E_d106_0.take 5) h_d106_0)]
set_option maxRecDepth 1000000 in
theorem ck_d106_0 : e2_runM (e2_cal S_d106 I_d106 4000 2) (e2_fin rs_d106) e2x_231 (e2_bpL cl_d106_0) (e2_cutA cl_d106_0) 4000 (e2_seek e2x_231 3) al_d106_0 [] E_d106_0 h_d106_0 = true := by decide +kernel
set_option maxRecDepth 1000000 in
theorem ci_d106_0 : e2_idl 5 (al_d106_0.set 4 (9, 0, 0)) = true := by decide +kernel
set_option maxRecDepth 1000000 in
theorem cj_d106_0 : e2_idh 5 8 h_d106_0 = true := by decide +kernel
theorem cs_d106 (hen : en_ok) (l : Launch) : e2_smOk l 3 s_d106 := by
  refine e2_conG (H := 0) (n := 2) (C := evd_231) (S := S_d106) (I := I_d106) (fuel := 4000) hen ei_231 e2_fz (e2_fa ein_215 (e2_fa ein_216 (e2_fa ein_217 (e2_fa ein_225 (e2_fa ein_226 (e2_fa ein_227 e2_fz)))))) (by decide) co_d106 fun M d _ hC hcall p e R s m args below meth c Q D cA A ads r0 ha hl0 => ?_
  have L_0 : e2_gdM M p l e R s m args below meth c Q D cA A ads r0 3 al_d106_0 [] E_d106_0 h_d106_0 := by
    refine e2_indL (u := 5) (j := 4) (lo := 2147483648) (hi := 2147483656) (b := 5) (dd := 0) hl0 (by decide) rfl rfl (Or.inr ⟨rfl, rfl⟩) rfl ci_d106_0 cj_d106_0 ?_
    intro r_0 k_0 hk_0 hp_0 hs_0 hn_0
    have hl_0 : r_0.length ≤ 6 := hs_0.len rfl
    have ha_0 := ha.ext hp_0
    exact e2_fromM hen ha_0 hcall (e2_cutA_ok (e2_fa (fun al st E h hc => hn_0 al st E h hc) e2_fz)) (hC [3]) (X := e2x_231) ex2_231 3 ck_d106_0
  have EN_0 := e2_entL (u := 5) (j := 4) (lo := 2147483648) (hi := 2147483656) hl0 rfl rfl rfl ci_d106_0 cj_d106_0 L_0
  exact e2_from hen ha hcall (e2_cutA_ok (e2_fa (fun al st E h hc => EN_0 al st E h hc) e2_fz)) (hC [3]) (X := e2x_231) ex2_231 0 ck_d106_e
/-! d107 X10_nextAt -/
def as_d107 : List ev_V := [(2, 83, 0), (0, 3, 0), (11, 2147483648, 2147483656), (11, 0, 4294967295)]
def E_d107 : e2_E := [(2147483648, 2147583648, 0, 0), (2147483648, 2147483656, 1, 0), (2147483648, 2147483688, 2, 0), (2147483648, 2147483688, 3, 0), (2147483648, 2147483668, 4, 0)]
noncomputable def f_d107 : ev_H := (dn1030 : e2_Q8)
noncomputable def q_d107_0 : ev_H := (dn1030 : e2_Q8)
noncomputable def rs_d107 : e2_Rs := [((12, 9, 2147483647), q_d107_0)]
noncomputable def s_d107 : e2_Sm := (231, as_d107, E_d107, f_d107, rs_d107)
noncomputable def S_d107 : List e2_Sm := []
noncomputable def I_d107 : List e2_In := [(215, 2, e2x_215), (216, 1, e2x_216), (217, 1, e2x_217), (225, 5, e2x_225), (226, 3, e2x_226), (227, 2, e2x_227)]
set_option maxRecDepth 1000000 in
theorem co_d107 : e2_okSB E_d107.length as_d107 f_d107 rs_d107 = true := by decide +kernel
def al_d107_0 : List ev_V := [(2, 83, 0), (0, 3, 0), (11, 2147483648, 2147483656), (11, 0, 4294967295), (1, 5, 4294967296), (9, 0, 0)]
def E_d107_0 : e2_E := [(2147483648, 2147583648, 0, 0), (2147483648, 2147483656, 1, 0), (2147483648, 2147483688, 2, 0), (2147483648, 2147483688, 3, 0), (2147483648, 2147483668, 4, 0), (2147483648, 2147483656, 5, 0)]
noncomputable def h_d107_0 : ev_H := (dn1030 : e2_Q8)
noncomputable def cl_d107_e : List (Nat × e2_S) := [(3, e2_cutL (al_d107_0.set 4 (11, 2147483648, 2147483656)) 5 (E_d107_0.take 5) h_d107_0)]
set_option maxRecDepth 1000000 in
theorem ck_d107_e : e2_run (e2_cal S_d107 I_d107 4000 2) (e2_fin rs_d107) e2x_231 (e2_bpL cl_d107_e) (e2_cutA cl_d107_e) 4000 (e2_seek e2x_231 0) (e2_al 6 as_d107) [] E_d107 f_d107 = true := by decide +kernel
noncomputable def cl_d107_0 : List (Nat × e2_S) := [(3, e2_cutL (al_d107_0.set 4 (13, 13, 2147483656)) 5 (E_d107_0.take 5) h_d107_0)]
set_option maxRecDepth 1000000 in
theorem ck_d107_0 : e2_runM (e2_cal S_d107 I_d107 4000 2) (e2_fin rs_d107) e2x_231 (e2_bpL cl_d107_0) (e2_cutA cl_d107_0) 4000 (e2_seek e2x_231 3) al_d107_0 [] E_d107_0 h_d107_0 = true := by decide +kernel
set_option maxRecDepth 1000000 in
theorem ci_d107_0 : e2_idl 5 (al_d107_0.set 4 (9, 0, 0)) = true := by decide +kernel
set_option maxRecDepth 1000000 in
theorem cj_d107_0 : e2_idh 5 8 h_d107_0 = true := by decide +kernel
theorem cs_d107 (hen : en_ok) (l : Launch) : e2_smOk l 3 s_d107 := by
  refine e2_conG (H := 0) (n := 2) (C := evd_231) (S := S_d107) (I := I_d107) (fuel := 4000) hen ei_231 e2_fz (e2_fa ein_215 (e2_fa ein_216 (e2_fa ein_217 (e2_fa ein_225 (e2_fa ein_226 (e2_fa ein_227 e2_fz)))))) (by decide) co_d107 fun M d _ hC hcall p e R s m args below meth c Q D cA A ads r0 ha hl0 => ?_
  have L_0 : e2_gdM M p l e R s m args below meth c Q D cA A ads r0 3 al_d107_0 [] E_d107_0 h_d107_0 := by
    refine e2_indL (u := 5) (j := 4) (lo := 2147483648) (hi := 2147483656) (b := 5) (dd := 0) hl0 (by decide) rfl rfl (Or.inr ⟨rfl, rfl⟩) rfl ci_d107_0 cj_d107_0 ?_
    intro r_0 k_0 hk_0 hp_0 hs_0 hn_0
    have hl_0 : r_0.length ≤ 6 := hs_0.len rfl
    have ha_0 := ha.ext hp_0
    exact e2_fromM hen ha_0 hcall (e2_cutA_ok (e2_fa (fun al st E h hc => hn_0 al st E h hc) e2_fz)) (hC [3]) (X := e2x_231) ex2_231 3 ck_d107_0
  have EN_0 := e2_entL (u := 5) (j := 4) (lo := 2147483648) (hi := 2147483656) hl0 rfl rfl rfl ci_d107_0 cj_d107_0 L_0
  exact e2_from hen ha hcall (e2_cutA_ok (e2_fa (fun al st E h hc => EN_0 al st E h hc) e2_fz)) (hC [3]) (X := e2x_231) ex2_231 0 ck_d107_e
/-! d108 X10_nextAt -/
def as_d108 : List ev_V := [(2, 83, 0), (0, 4, 0), (11, 2147483648, 2147483656), (11, 0, 4294967295)]
def E_d108 : e2_E := [(2147483648, 2147583648, 0, 0), (2147483648, 2147483656, 1, 0), (2147483648, 2147483688, 2, 0), (2147483648, 2147483688, 3, 0), (2147483648, 2147483668, 4, 0)]
noncomputable def f_d108 : ev_H := (dn1030 : e2_Q8)
noncomputable def q_d108_0 : ev_H := (dn1030 : e2_Q8)
noncomputable def rs_d108 : e2_Rs := [((12, 9, 2147483647), q_d108_0)]
noncomputable def s_d108 : e2_Sm := (231, as_d108, E_d108, f_d108, rs_d108)
noncomputable def S_d108 : List e2_Sm := []
noncomputable def I_d108 : List e2_In := [(215, 2, e2x_215), (216, 1, e2x_216), (217, 1, e2x_217), (225, 5, e2x_225), (226, 3, e2x_226), (227, 2, e2x_227)]
set_option maxRecDepth 1000000 in
theorem co_d108 : e2_okSB E_d108.length as_d108 f_d108 rs_d108 = true := by decide +kernel
def al_d108_0 : List ev_V := [(2, 83, 0), (0, 4, 0), (11, 2147483648, 2147483656), (11, 0, 4294967295), (1, 5, 4294967296), (9, 0, 0)]
def E_d108_0 : e2_E := [(2147483648, 2147583648, 0, 0), (2147483648, 2147483656, 1, 0), (2147483648, 2147483688, 2, 0), (2147483648, 2147483688, 3, 0), (2147483648, 2147483668, 4, 0), (2147483648, 2147483656, 5, 0)]
noncomputable def h_d108_0 : ev_H := (dn1030 : e2_Q8)
noncomputable def cl_d108_e : List (Nat × e2_S) := [(3, e2_cutL (al_d108_0.set 4 (11, 2147483648, 2147483656)) 5 (E_d108_0.take 5) h_d108_0)]
set_option maxRecDepth 1000000 in
theorem ck_d108_e : e2_run (e2_cal S_d108 I_d108 4000 2) (e2_fin rs_d108) e2x_231 (e2_bpL cl_d108_e) (e2_cutA cl_d108_e) 4000 (e2_seek e2x_231 0) (e2_al 6 as_d108) [] E_d108 f_d108 = true := by decide +kernel
noncomputable def cl_d108_0 : List (Nat × e2_S) := [(3, e2_cutL (al_d108_0.set 4 (13, 13, 2147483656)) 5 (E_d108_0.take 5) h_d108_0)]
set_option maxRecDepth 1000000 in
theorem ck_d108_0 : e2_runM (e2_cal S_d108 I_d108 4000 2) (e2_fin rs_d108) e2x_231 (e2_bpL cl_d108_0) (e2_cutA cl_d108_0) 4000 (e2_seek e2x_231 3) al_d108_0 [] E_d108_0 h_d108_0 = true := by decide +kernel
set_option maxRecDepth 1000000 in
theorem ci_d108_0 : e2_idl 5 (al_d108_0.set 4 (9, 0, 0)) = true := by decide +kernel
set_option maxRecDepth 1000000 in
theorem cj_d108_0 : e2_idh 5 8 h_d108_0 = true := by decide +kernel
theorem cs_d108 (hen : en_ok) (l : Launch) : e2_smOk l 3 s_d108 := by
  refine e2_conG (H := 0) (n := 2) (C := evd_231) (S := S_d108) (I := I_d108) (fuel := 4000) hen ei_231 e2_fz (e2_fa ein_215 (e2_fa ein_216 (e2_fa ein_217 (e2_fa ein_225 (e2_fa ein_226 (e2_fa ein_227 e2_fz)))))) (by decide) co_d108 fun M d _ hC hcall p e R s m args below meth c Q D cA A ads r0 ha hl0 => ?_
  have L_0 : e2_gdM M p l e R s m args below meth c Q D cA A ads r0 3 al_d108_0 [] E_d108_0 h_d108_0 := by
    refine e2_indL (u := 5) (j := 4) (lo := 2147483648) (hi := 2147483656) (b := 5) (dd := 0) hl0 (by decide) rfl rfl (Or.inr ⟨rfl, rfl⟩) rfl ci_d108_0 cj_d108_0 ?_
    intro r_0 k_0 hk_0 hp_0 hs_0 hn_0
    have hl_0 : r_0.length ≤ 6 := hs_0.len rfl
    have ha_0 := ha.ext hp_0
    exact e2_fromM hen ha_0 hcall (e2_cutA_ok (e2_fa (fun al st E h hc => hn_0 al st E h hc) e2_fz)) (hC [3]) (X := e2x_231) ex2_231 3 ck_d108_0
  have EN_0 := e2_entL (u := 5) (j := 4) (lo := 2147483648) (hi := 2147483656) hl0 rfl rfl rfl ci_d108_0 cj_d108_0 L_0
  exact e2_from hen ha hcall (e2_cutA_ok (e2_fa (fun al st E h hc => EN_0 al st E h hc) e2_fz)) (hC [3]) (X := e2x_231) ex2_231 0 ck_d108_e
/-! d109 X10_nextAt -/
def as_d109 : List ev_V := [(2, 83, 0), (0, 5, 0), (11, 2147483648, 2147483656), (11, 0, 4294967295)]
def E_d109 : e2_E := [(2147483648, 2147583648, 0, 0), (2147483648, 2147483656, 1, 0), (2147483648, 2147483688, 2, 0), (2147483648, 2147483688, 3, 0), (2147483648, 2147483668, 4, 0)]
noncomputable def f_d109 : ev_H := (dn1030 : e2_Q8)
noncomputable def q_d109_0 : ev_H := (dn1030 : e2_Q8)
noncomputable def rs_d109 : e2_Rs := [((12, 9, 2147483647), q_d109_0)]
noncomputable def s_d109 : e2_Sm := (231, as_d109, E_d109, f_d109, rs_d109)
noncomputable def S_d109 : List e2_Sm := []
noncomputable def I_d109 : List e2_In := [(215, 2, e2x_215), (216, 1, e2x_216), (217, 1, e2x_217), (225, 5, e2x_225), (226, 3, e2x_226), (227, 2, e2x_227)]
set_option maxRecDepth 1000000 in
theorem co_d109 : e2_okSB E_d109.length as_d109 f_d109 rs_d109 = true := by decide +kernel
def al_d109_0 : List ev_V := [(2, 83, 0), (0, 5, 0), (11, 2147483648, 2147483656), (11, 0, 4294967295), (1, 5, 4294967296), (9, 0, 0)]
def E_d109_0 : e2_E := [(2147483648, 2147583648, 0, 0), (2147483648, 2147483656, 1, 0), (2147483648, 2147483688, 2, 0), (2147483648, 2147483688, 3, 0), (2147483648, 2147483668, 4, 0), (2147483648, 2147483656, 5, 0)]
noncomputable def h_d109_0 : ev_H := (dn1030 : e2_Q8)
noncomputable def cl_d109_e : List (Nat × e2_S) := [(3, e2_cutL (al_d109_0.set 4 (11, 2147483648, 2147483656)) 5 (E_d109_0.take 5) h_d109_0)]
set_option maxRecDepth 1000000 in
theorem ck_d109_e : e2_run (e2_cal S_d109 I_d109 4000 2) (e2_fin rs_d109) e2x_231 (e2_bpL cl_d109_e) (e2_cutA cl_d109_e) 4000 (e2_seek e2x_231 0) (e2_al 6 as_d109) [] E_d109 f_d109 = true := by decide +kernel
noncomputable def cl_d109_0 : List (Nat × e2_S) := [(3, e2_cutL (al_d109_0.set 4 (13, 13, 2147483656)) 5 (E_d109_0.take 5) h_d109_0)]
set_option maxRecDepth 1000000 in
theorem ck_d109_0 : e2_runM (e2_cal S_d109 I_d109 4000 2) (e2_fin rs_d109) e2x_231 (e2_bpL cl_d109_0) (e2_cutA cl_d109_0) 4000 (e2_seek e2x_231 3) al_d109_0 [] E_d109_0 h_d109_0 = true := by decide +kernel
set_option maxRecDepth 1000000 in
theorem ci_d109_0 : e2_idl 5 (al_d109_0.set 4 (9, 0, 0)) = true := by decide +kernel
set_option maxRecDepth 1000000 in
theorem cj_d109_0 : e2_idh 5 8 h_d109_0 = true := by decide +kernel
theorem cs_d109 (hen : en_ok) (l : Launch) : e2_smOk l 3 s_d109 := by
  refine e2_conG (H := 0) (n := 2) (C := evd_231) (S := S_d109) (I := I_d109) (fuel := 4000) hen ei_231 e2_fz (e2_fa ein_215 (e2_fa ein_216 (e2_fa ein_217 (e2_fa ein_225 (e2_fa ein_226 (e2_fa ein_227 e2_fz)))))) (by decide) co_d109 fun M d _ hC hcall p e R s m args below meth c Q D cA A ads r0 ha hl0 => ?_
  have L_0 : e2_gdM M p l e R s m args below meth c Q D cA A ads r0 3 al_d109_0 [] E_d109_0 h_d109_0 := by
    refine e2_indL (u := 5) (j := 4) (lo := 2147483648) (hi := 2147483656) (b := 5) (dd := 0) hl0 (by decide) rfl rfl (Or.inr ⟨rfl, rfl⟩) rfl ci_d109_0 cj_d109_0 ?_
    intro r_0 k_0 hk_0 hp_0 hs_0 hn_0
    have hl_0 : r_0.length ≤ 6 := hs_0.len rfl
    have ha_0 := ha.ext hp_0
    exact e2_fromM hen ha_0 hcall (e2_cutA_ok (e2_fa (fun al st E h hc => hn_0 al st E h hc) e2_fz)) (hC [3]) (X := e2x_231) ex2_231 3 ck_d109_0
  have EN_0 := e2_entL (u := 5) (j := 4) (lo := 2147483648) (hi := 2147483656) hl0 rfl rfl rfl ci_d109_0 cj_d109_0 L_0
  exact e2_from hen ha hcall (e2_cutA_ok (e2_fa (fun al st E h hc => EN_0 al st E h hc) e2_fz)) (hC [3]) (X := e2x_231) ex2_231 0 ck_d109_e
/-! d110 X10_nextAt -/
def as_d110 : List ev_V := [(2, 83, 0), (0, 6, 0), (11, 2147483648, 2147483656), (11, 0, 4294967295)]
def E_d110 : e2_E := [(2147483648, 2147583648, 0, 0), (2147483648, 2147483656, 1, 0), (2147483648, 2147483688, 2, 0), (2147483648, 2147483688, 3, 0), (2147483648, 2147483668, 4, 0)]
noncomputable def f_d110 : ev_H := (dn1030 : e2_Q8)
noncomputable def q_d110_0 : ev_H := (dn1030 : e2_Q8)
noncomputable def rs_d110 : e2_Rs := [((12, 9, 2147483647), q_d110_0)]
noncomputable def s_d110 : e2_Sm := (231, as_d110, E_d110, f_d110, rs_d110)
noncomputable def S_d110 : List e2_Sm := []
noncomputable def I_d110 : List e2_In := [(215, 2, e2x_215), (216, 1, e2x_216), (217, 1, e2x_217), (225, 5, e2x_225), (226, 3, e2x_226), (227, 2, e2x_227)]
set_option maxRecDepth 1000000 in
theorem co_d110 : e2_okSB E_d110.length as_d110 f_d110 rs_d110 = true := by decide +kernel
def al_d110_0 : List ev_V := [(2, 83, 0), (0, 6, 0), (11, 2147483648, 2147483656), (11, 0, 4294967295), (1, 5, 4294967296), (9, 0, 0)]
def E_d110_0 : e2_E := [(2147483648, 2147583648, 0, 0), (2147483648, 2147483656, 1, 0), (2147483648, 2147483688, 2, 0), (2147483648, 2147483688, 3, 0), (2147483648, 2147483668, 4, 0), (2147483648, 2147483656, 5, 0)]
noncomputable def h_d110_0 : ev_H := (dn1030 : e2_Q8)
noncomputable def cl_d110_e : List (Nat × e2_S) := [(3, e2_cutL (al_d110_0.set 4 (11, 2147483648, 2147483656)) 5 (E_d110_0.take 5) h_d110_0)]
set_option maxRecDepth 1000000 in
theorem ck_d110_e : e2_run (e2_cal S_d110 I_d110 4000 2) (e2_fin rs_d110) e2x_231 (e2_bpL cl_d110_e) (e2_cutA cl_d110_e) 4000 (e2_seek e2x_231 0) (e2_al 6 as_d110) [] E_d110 f_d110 = true := by decide +kernel
noncomputable def cl_d110_0 : List (Nat × e2_S) := [(3, e2_cutL (al_d110_0.set 4 (13, 13, 2147483656)) 5 (E_d110_0.take 5) h_d110_0)]
set_option maxRecDepth 1000000 in
theorem ck_d110_0 : e2_runM (e2_cal S_d110 I_d110 4000 2) (e2_fin rs_d110) e2x_231 (e2_bpL cl_d110_0) (e2_cutA cl_d110_0) 4000 (e2_seek e2x_231 3) al_d110_0 [] E_d110_0 h_d110_0 = true := by decide +kernel
set_option maxRecDepth 1000000 in
theorem ci_d110_0 : e2_idl 5 (al_d110_0.set 4 (9, 0, 0)) = true := by decide +kernel
set_option maxRecDepth 1000000 in
theorem cj_d110_0 : e2_idh 5 8 h_d110_0 = true := by decide +kernel
theorem cs_d110 (hen : en_ok) (l : Launch) : e2_smOk l 3 s_d110 := by
  refine e2_conG (H := 0) (n := 2) (C := evd_231) (S := S_d110) (I := I_d110) (fuel := 4000) hen ei_231 e2_fz (e2_fa ein_215 (e2_fa ein_216 (e2_fa ein_217 (e2_fa ein_225 (e2_fa ein_226 (e2_fa ein_227 e2_fz)))))) (by decide) co_d110 fun M d _ hC hcall p e R s m args below meth c Q D cA A ads r0 ha hl0 => ?_
  have L_0 : e2_gdM M p l e R s m args below meth c Q D cA A ads r0 3 al_d110_0 [] E_d110_0 h_d110_0 := by
    refine e2_indL (u := 5) (j := 4) (lo := 2147483648) (hi := 2147483656) (b := 5) (dd := 0) hl0 (by decide) rfl rfl (Or.inr ⟨rfl, rfl⟩) rfl ci_d110_0 cj_d110_0 ?_
    intro r_0 k_0 hk_0 hp_0 hs_0 hn_0
    have hl_0 : r_0.length ≤ 6 := hs_0.len rfl
    have ha_0 := ha.ext hp_0
    exact e2_fromM hen ha_0 hcall (e2_cutA_ok (e2_fa (fun al st E h hc => hn_0 al st E h hc) e2_fz)) (hC [3]) (X := e2x_231) ex2_231 3 ck_d110_0
  have EN_0 := e2_entL (u := 5) (j := 4) (lo := 2147483648) (hi := 2147483656) hl0 rfl rfl rfl ci_d110_0 cj_d110_0 L_0
  exact e2_from hen ha hcall (e2_cutA_ok (e2_fa (fun al st E h hc => EN_0 al st E h hc) e2_fz)) (hC [3]) (X := e2x_231) ex2_231 0 ck_d110_e
/-! d111 X10_nextAt -/
def as_d111 : List ev_V := [(2, 83, 0), (0, 7, 0), (11, 2147483648, 2147483656), (11, 0, 4294967295)]
def E_d111 : e2_E := [(2147483648, 2147583648, 0, 0), (2147483648, 2147483656, 1, 0), (2147483648, 2147483688, 2, 0), (2147483648, 2147483688, 3, 0), (2147483648, 2147483668, 4, 0)]
noncomputable def f_d111 : ev_H := (dn1030 : e2_Q8)
noncomputable def q_d111_0 : ev_H := (dn1030 : e2_Q8)
noncomputable def rs_d111 : e2_Rs := [((12, 9, 2147483647), q_d111_0)]
noncomputable def s_d111 : e2_Sm := (231, as_d111, E_d111, f_d111, rs_d111)
noncomputable def S_d111 : List e2_Sm := []
noncomputable def I_d111 : List e2_In := [(215, 2, e2x_215), (216, 1, e2x_216), (217, 1, e2x_217), (225, 5, e2x_225), (226, 3, e2x_226), (227, 2, e2x_227)]
set_option maxRecDepth 1000000 in
theorem co_d111 : e2_okSB E_d111.length as_d111 f_d111 rs_d111 = true := by decide +kernel
def al_d111_0 : List ev_V := [(2, 83, 0), (0, 7, 0), (11, 2147483648, 2147483656), (11, 0, 4294967295), (1, 5, 4294967296), (9, 0, 0)]
def E_d111_0 : e2_E := [(2147483648, 2147583648, 0, 0), (2147483648, 2147483656, 1, 0), (2147483648, 2147483688, 2, 0), (2147483648, 2147483688, 3, 0), (2147483648, 2147483668, 4, 0), (2147483648, 2147483656, 5, 0)]
noncomputable def h_d111_0 : ev_H := (dn1030 : e2_Q8)
noncomputable def cl_d111_e : List (Nat × e2_S) := [(3, e2_cutL (al_d111_0.set 4 (11, 2147483648, 2147483656)) 5 (E_d111_0.take 5) h_d111_0)]
set_option maxRecDepth 1000000 in
theorem ck_d111_e : e2_run (e2_cal S_d111 I_d111 4000 2) (e2_fin rs_d111) e2x_231 (e2_bpL cl_d111_e) (e2_cutA cl_d111_e) 4000 (e2_seek e2x_231 0) (e2_al 6 as_d111) [] E_d111 f_d111 = true := by decide +kernel
noncomputable def cl_d111_0 : List (Nat × e2_S) := [(3, e2_cutL (al_d111_0.set 4 (13, 13, 2147483656)) 5 (E_d111_0.take 5) h_d111_0)]
set_option maxRecDepth 1000000 in
theorem ck_d111_0 : e2_runM (e2_cal S_d111 I_d111 4000 2) (e2_fin rs_d111) e2x_231 (e2_bpL cl_d111_0) (e2_cutA cl_d111_0) 4000 (e2_seek e2x_231 3) al_d111_0 [] E_d111_0 h_d111_0 = true := by decide +kernel
set_option maxRecDepth 1000000 in
theorem ci_d111_0 : e2_idl 5 (al_d111_0.set 4 (9, 0, 0)) = true := by decide +kernel
set_option maxRecDepth 1000000 in
theorem cj_d111_0 : e2_idh 5 8 h_d111_0 = true := by decide +kernel
theorem cs_d111 (hen : en_ok) (l : Launch) : e2_smOk l 3 s_d111 := by
  refine e2_conG (H := 0) (n := 2) (C := evd_231) (S := S_d111) (I := I_d111) (fuel := 4000) hen ei_231 e2_fz (e2_fa ein_215 (e2_fa ein_216 (e2_fa ein_217 (e2_fa ein_225 (e2_fa ein_226 (e2_fa ein_227 e2_fz)))))) (by decide) co_d111 fun M d _ hC hcall p e R s m args below meth c Q D cA A ads r0 ha hl0 => ?_
  have L_0 : e2_gdM M p l e R s m args below meth c Q D cA A ads r0 3 al_d111_0 [] E_d111_0 h_d111_0 := by
    refine e2_indL (u := 5) (j := 4) (lo := 2147483648) (hi := 2147483656) (b := 5) (dd := 0) hl0 (by decide) rfl rfl (Or.inr ⟨rfl, rfl⟩) rfl ci_d111_0 cj_d111_0 ?_
    intro r_0 k_0 hk_0 hp_0 hs_0 hn_0
    have hl_0 : r_0.length ≤ 6 := hs_0.len rfl
    have ha_0 := ha.ext hp_0
    exact e2_fromM hen ha_0 hcall (e2_cutA_ok (e2_fa (fun al st E h hc => hn_0 al st E h hc) e2_fz)) (hC [3]) (X := e2x_231) ex2_231 3 ck_d111_0
  have EN_0 := e2_entL (u := 5) (j := 4) (lo := 2147483648) (hi := 2147483656) hl0 rfl rfl rfl ci_d111_0 cj_d111_0 L_0
  exact e2_from hen ha hcall (e2_cutA_ok (e2_fa (fun al st E h hc => EN_0 al st E h hc) e2_fz)) (hC [3]) (X := e2x_231) ex2_231 0 ck_d111_e
/-! d112 X10_nextAt -/
def as_d112 : List ev_V := [(2, 83, 0), (0, 8, 0), (11, 2147483648, 2147483656), (11, 0, 4294967295)]
def E_d112 : e2_E := [(2147483648, 2147583648, 0, 0), (2147483648, 2147483656, 1, 0), (2147483648, 2147483688, 2, 0), (2147483648, 2147483688, 3, 0), (2147483648, 2147483668, 4, 0)]
noncomputable def f_d112 : ev_H := (dn1030 : e2_Q8)
noncomputable def q_d112_0 : ev_H := (dn1030 : e2_Q8)
noncomputable def rs_d112 : e2_Rs := [((12, 9, 2147483647), q_d112_0)]
noncomputable def s_d112 : e2_Sm := (231, as_d112, E_d112, f_d112, rs_d112)
noncomputable def S_d112 : List e2_Sm := []
noncomputable def I_d112 : List e2_In := [(215, 2, e2x_215), (216, 1, e2x_216), (217, 1, e2x_217), (225, 5, e2x_225), (226, 3, e2x_226), (227, 2, e2x_227)]
set_option maxRecDepth 1000000 in
theorem co_d112 : e2_okSB E_d112.length as_d112 f_d112 rs_d112 = true := by decide +kernel
def al_d112_0 : List ev_V := [(2, 83, 0), (0, 8, 0), (11, 2147483648, 2147483656), (11, 0, 4294967295), (1, 5, 4294967296), (9, 0, 0)]
def E_d112_0 : e2_E := [(2147483648, 2147583648, 0, 0), (2147483648, 2147483656, 1, 0), (2147483648, 2147483688, 2, 0), (2147483648, 2147483688, 3, 0), (2147483648, 2147483668, 4, 0), (2147483648, 2147483656, 5, 0)]
noncomputable def h_d112_0 : ev_H := (dn1030 : e2_Q8)
noncomputable def cl_d112_e : List (Nat × e2_S) := [(3, e2_cutL (al_d112_0.set 4 (11, 2147483648, 2147483656)) 5 (E_d112_0.take 5) h_d112_0)]
set_option maxRecDepth 1000000 in
theorem ck_d112_e : e2_run (e2_cal S_d112 I_d112 4000 2) (e2_fin rs_d112) e2x_231 (e2_bpL cl_d112_e) (e2_cutA cl_d112_e) 4000 (e2_seek e2x_231 0) (e2_al 6 as_d112) [] E_d112 f_d112 = true := by decide +kernel
noncomputable def cl_d112_0 : List (Nat × e2_S) := [(3, e2_cutL (al_d112_0.set 4 (13, 13, 2147483656)) 5 (E_d112_0.take 5) h_d112_0)]
set_option maxRecDepth 1000000 in
theorem ck_d112_0 : e2_runM (e2_cal S_d112 I_d112 4000 2) (e2_fin rs_d112) e2x_231 (e2_bpL cl_d112_0) (e2_cutA cl_d112_0) 4000 (e2_seek e2x_231 3) al_d112_0 [] E_d112_0 h_d112_0 = true := by decide +kernel
set_option maxRecDepth 1000000 in
theorem ci_d112_0 : e2_idl 5 (al_d112_0.set 4 (9, 0, 0)) = true := by decide +kernel
set_option maxRecDepth 1000000 in
theorem cj_d112_0 : e2_idh 5 8 h_d112_0 = true := by decide +kernel
theorem cs_d112 (hen : en_ok) (l : Launch) : e2_smOk l 3 s_d112 := by
  refine e2_conG (H := 0) (n := 2) (C := evd_231) (S := S_d112) (I := I_d112) (fuel := 4000) hen ei_231 e2_fz (e2_fa ein_215 (e2_fa ein_216 (e2_fa ein_217 (e2_fa ein_225 (e2_fa ein_226 (e2_fa ein_227 e2_fz)))))) (by decide) co_d112 fun M d _ hC hcall p e R s m args below meth c Q D cA A ads r0 ha hl0 => ?_
  have L_0 : e2_gdM M p l e R s m args below meth c Q D cA A ads r0 3 al_d112_0 [] E_d112_0 h_d112_0 := by
    refine e2_indL (u := 5) (j := 4) (lo := 2147483648) (hi := 2147483656) (b := 5) (dd := 0) hl0 (by decide) rfl rfl (Or.inr ⟨rfl, rfl⟩) rfl ci_d112_0 cj_d112_0 ?_
    intro r_0 k_0 hk_0 hp_0 hs_0 hn_0
    have hl_0 : r_0.length ≤ 6 := hs_0.len rfl
    have ha_0 := ha.ext hp_0
    exact e2_fromM hen ha_0 hcall (e2_cutA_ok (e2_fa (fun al st E h hc => hn_0 al st E h hc) e2_fz)) (hC [3]) (X := e2x_231) ex2_231 3 ck_d112_0
  have EN_0 := e2_entL (u := 5) (j := 4) (lo := 2147483648) (hi := 2147483656) hl0 rfl rfl rfl ci_d112_0 cj_d112_0 L_0
  exact e2_from hen ha hcall (e2_cutA_ok (e2_fa (fun al st E h hc => EN_0 al st E h hc) e2_fz)) (hC [3]) (X := e2x_231) ex2_231 0 ck_d112_e
/-! d113 X10_nextAt -/
def as_d113 : List ev_V := [(2, 83, 0), (0, 9, 0), (11, 2147483648, 2147483656), (11, 0, 4294967295)]
def E_d113 : e2_E := [(2147483648, 2147583648, 0, 0), (2147483648, 2147483656, 1, 0), (2147483648, 2147483688, 2, 0), (2147483648, 2147483688, 3, 0), (2147483648, 2147483668, 4, 0)]
noncomputable def f_d113 : ev_H := (dn1030 : e2_Q8)
noncomputable def q_d113_0 : ev_H := (dn1030 : e2_Q8)
noncomputable def rs_d113 : e2_Rs := [((12, 9, 2147483647), q_d113_0)]
noncomputable def s_d113 : e2_Sm := (231, as_d113, E_d113, f_d113, rs_d113)
noncomputable def S_d113 : List e2_Sm := []
noncomputable def I_d113 : List e2_In := [(215, 2, e2x_215), (216, 1, e2x_216), (217, 1, e2x_217), (225, 5, e2x_225), (226, 3, e2x_226), (227, 2, e2x_227)]
set_option maxRecDepth 1000000 in
theorem co_d113 : e2_okSB E_d113.length as_d113 f_d113 rs_d113 = true := by decide +kernel
def al_d113_0 : List ev_V := [(2, 83, 0), (0, 9, 0), (11, 2147483648, 2147483656), (11, 0, 4294967295), (1, 5, 4294967296), (9, 0, 0)]
def E_d113_0 : e2_E := [(2147483648, 2147583648, 0, 0), (2147483648, 2147483656, 1, 0), (2147483648, 2147483688, 2, 0), (2147483648, 2147483688, 3, 0), (2147483648, 2147483668, 4, 0), (2147483648, 2147483656, 5, 0)]
noncomputable def h_d113_0 : ev_H := (dn1030 : e2_Q8)
noncomputable def cl_d113_e : List (Nat × e2_S) := [(3, e2_cutL (al_d113_0.set 4 (11, 2147483648, 2147483656)) 5 (E_d113_0.take 5) h_d113_0)]
set_option maxRecDepth 1000000 in
theorem ck_d113_e : e2_run (e2_cal S_d113 I_d113 4000 2) (e2_fin rs_d113) e2x_231 (e2_bpL cl_d113_e) (e2_cutA cl_d113_e) 4000 (e2_seek e2x_231 0) (e2_al 6 as_d113) [] E_d113 f_d113 = true := by decide +kernel
noncomputable def cl_d113_0 : List (Nat × e2_S) := [(3, e2_cutL (al_d113_0.set 4 (13, 13, 2147483656)) 5 (E_d113_0.take 5) h_d113_0)]
set_option maxRecDepth 1000000 in
theorem ck_d113_0 : e2_runM (e2_cal S_d113 I_d113 4000 2) (e2_fin rs_d113) e2x_231 (e2_bpL cl_d113_0) (e2_cutA cl_d113_0) 4000 (e2_seek e2x_231 3) al_d113_0 [] E_d113_0 h_d113_0 = true := by decide +kernel
set_option maxRecDepth 1000000 in
theorem ci_d113_0 : e2_idl 5 (al_d113_0.set 4 (9, 0, 0)) = true := by decide +kernel
set_option maxRecDepth 1000000 in
theorem cj_d113_0 : e2_idh 5 8 h_d113_0 = true := by decide +kernel
theorem cs_d113 (hen : en_ok) (l : Launch) : e2_smOk l 3 s_d113 := by
  refine e2_conG (H := 0) (n := 2) (C := evd_231) (S := S_d113) (I := I_d113) (fuel := 4000) hen ei_231 e2_fz (e2_fa ein_215 (e2_fa ein_216 (e2_fa ein_217 (e2_fa ein_225 (e2_fa ein_226 (e2_fa ein_227 e2_fz)))))) (by decide) co_d113 fun M d _ hC hcall p e R s m args below meth c Q D cA A ads r0 ha hl0 => ?_
  have L_0 : e2_gdM M p l e R s m args below meth c Q D cA A ads r0 3 al_d113_0 [] E_d113_0 h_d113_0 := by
    refine e2_indL (u := 5) (j := 4) (lo := 2147483648) (hi := 2147483656) (b := 5) (dd := 0) hl0 (by decide) rfl rfl (Or.inr ⟨rfl, rfl⟩) rfl ci_d113_0 cj_d113_0 ?_
    intro r_0 k_0 hk_0 hp_0 hs_0 hn_0
    have hl_0 : r_0.length ≤ 6 := hs_0.len rfl
    have ha_0 := ha.ext hp_0
    exact e2_fromM hen ha_0 hcall (e2_cutA_ok (e2_fa (fun al st E h hc => hn_0 al st E h hc) e2_fz)) (hC [3]) (X := e2x_231) ex2_231 3 ck_d113_0
  have EN_0 := e2_entL (u := 5) (j := 4) (lo := 2147483648) (hi := 2147483656) hl0 rfl rfl rfl ci_d113_0 cj_d113_0 L_0
  exact e2_from hen ha hcall (e2_cutA_ok (e2_fa (fun al st E h hc => EN_0 al st E h hc) e2_fz)) (hC [3]) (X := e2x_231) ex2_231 0 ck_d113_e
/-! d114 X10_read -/
def as_d114 : List ev_V := [(2, 83, 0), (11, 0, 4294967295)]
def E_d114 : e2_E := [(2147483648, 2147583648, 0, 0), (2147483648, 2147483648, 1, 0), (2147483648, 2147483688, 2, 0), (2147483648, 2147483688, 3, 0)]
def dn1031 : e2_Q7 := (dn488, dn457)
def dn1032 : e2_Q8 := (dn477, dn1031)
noncomputable def f_d114 : ev_H := (dn1032 : e2_Q8)
def dc191 : ev_C := (10, [(0, 1, 0), (2, 88, 0), (2, 115, 0), (2, 114, 0), (2, 86, 0), (2, 112, 0), (11, 2147483648, 2147483688), (2, 118, 0), (2, 120, 0), (2, 131, 0), (2, 91, 0), (0, 0, 0), (2, 123, 0), (11, 2147483648, 2147483649), (11, 2147483648, 2147485248), (2, 87, 0), (2, 84, 0), (2, 122, 0), (2, 100, 0), (2, 132, 0), (11, 2147483648, 2147483668), (11, 2147483648, 2147485248), (1, 0, 4294967296), (11, 0, 4294967295), (11, 2147483648, 2147485248), (2, 93, 0), (2, 104, 0), (11, 2147483648, 2147483678), (2, 89, 0), (2, 92, 0), (2, 119, 0), (2, 90, 0), (2, 94, 0), (2, 103, 0), (0, 0, 0), (11, 0, 4294967295), (11, 0, 4294967295), (11, 2147483648, 2147485249), (11, 2147483648, 2147483653), (11, 2147483648, 2147483668), (2, 85, 0), (11, 2147483648, 2147493647), (5, 0, 0), (2, 95, 0), (2, 96, 0), (2, 97, 0), (2, 98, 0), (2, 99, 0), (2, 101, 0), (2, 102, 0), (2, 105, 0), (2, 106, 0), (2, 107, 0), (2, 108, 0), (2, 109, 0), (2, 110, 0), (2, 111, 0), (11, 2147483648, 2147484768), (11, 2147482048, 2147483655), (11, 2147483648, 2147483738), (11, 2147483648, 2147483678), (11, 0, 4294967295), (11, 0, 4294967295), (11, 0, 4294967295), (11, 0, 4294967295), (11, 0, 4294967295), (2, 113, 0), (2, 116, 0), (2, 117, 0), (2, 121, 0), (11, 0, 4294967295), (11, 0, 4294967295), (2, 124, 0), (2, 125, 0), (11, 0, 4294967295), (2, 126, 0), (2, 127, 0), (2, 128, 0), (2, 129, 0), (2, 130, 0)])
def dn1033 : e2_Q1 := (dc191, dc3)
def dn1034 : e2_Q2 := (dn197, dn1033)
def dn1035 : e2_Q3 := (dn1034, dn447)
def dn1036 : e2_Q4 := (dn196, dn1035)
def dn1037 : e2_Q5 := (dn1036, dn219)
def dn1038 : e2_Q6 := (dn1037, dn251)
def dn1039 : e2_Q7 := (dn488, dn1038)
def dn1040 : e2_Q8 := (dn477, dn1039)
noncomputable def q_d114_0 : ev_H := (dn1040 : e2_Q8)
noncomputable def rs_d114 : e2_Rs := [((11, 2147483647, 2147483648), q_d114_0)]
noncomputable def s_d114 : e2_Sm := (230, as_d114, E_d114, f_d114, rs_d114)
noncomputable def S_d114 : List e2_Sm := [s_d44, s_d45, s_d46, s_d47, s_d48, s_d49, s_d50, s_d51, s_d52, s_d53, s_d54, s_d55, s_d56, s_d57, s_d58, s_d59, s_d60, s_d61, s_d62, s_d63]
noncomputable def I_d114 : List e2_In := [(216, 1, e2x_216), (217, 1, e2x_217), (227, 2, e2x_227)]
noncomputable def Eb_d94 : e2_E := [(2147483648, 2147583648, 0, 0), (2147483648, 2147483656, 1, 0), (2147483648, 2147483688, 2, 0), (2147483648, 2147483688, 3, 0)]
set_option maxRecDepth 1000000 in
theorem cog_d94 : e2_okGB 4 83 11 as_d94 f_d94 rs_d94 = true := by decide +kernel
noncomputable def Eb_d95 : e2_E := [(2147483648, 2147583648, 0, 0), (2147483648, 2147483656, 1, 0), (2147483648, 2147483688, 2, 0), (2147483648, 2147483688, 3, 0)]
set_option maxRecDepth 1000000 in
theorem cog_d95 : e2_okGB 4 83 11 as_d95 f_d95 rs_d95 = true := by decide +kernel
noncomputable def Eb_d96 : e2_E := [(2147483648, 2147583648, 0, 0), (2147483648, 2147483656, 1, 0), (2147483648, 2147483688, 2, 0), (2147483648, 2147483688, 3, 0)]
set_option maxRecDepth 1000000 in
theorem cog_d96 : e2_okGB 4 83 11 as_d96 f_d96 rs_d96 = true := by decide +kernel
noncomputable def Eb_d97 : e2_E := [(2147483648, 2147583648, 0, 0), (2147483648, 2147483656, 1, 0), (2147483648, 2147483688, 2, 0), (2147483648, 2147483688, 3, 0)]
set_option maxRecDepth 1000000 in
theorem cog_d97 : e2_okGB 4 83 11 as_d97 f_d97 rs_d97 = true := by decide +kernel
noncomputable def Eb_d98 : e2_E := [(2147483648, 2147583648, 0, 0), (2147483648, 2147483656, 1, 0), (2147483648, 2147483688, 2, 0), (2147483648, 2147483688, 3, 0)]
set_option maxRecDepth 1000000 in
theorem cog_d98 : e2_okGB 4 83 11 as_d98 f_d98 rs_d98 = true := by decide +kernel
noncomputable def Eb_d99 : e2_E := [(2147483648, 2147583648, 0, 0), (2147483648, 2147483656, 1, 0), (2147483648, 2147483688, 2, 0), (2147483648, 2147483688, 3, 0)]
set_option maxRecDepth 1000000 in
theorem cog_d99 : e2_okGB 4 83 11 as_d99 f_d99 rs_d99 = true := by decide +kernel
noncomputable def Eb_d100 : e2_E := [(2147483648, 2147583648, 0, 0), (2147483648, 2147483656, 1, 0), (2147483648, 2147483688, 2, 0), (2147483648, 2147483688, 3, 0)]
set_option maxRecDepth 1000000 in
theorem cog_d100 : e2_okGB 4 83 11 as_d100 f_d100 rs_d100 = true := by decide +kernel
noncomputable def Eb_d101 : e2_E := [(2147483648, 2147583648, 0, 0), (2147483648, 2147483656, 1, 0), (2147483648, 2147483688, 2, 0), (2147483648, 2147483688, 3, 0)]
set_option maxRecDepth 1000000 in
theorem cog_d101 : e2_okGB 4 83 11 as_d101 f_d101 rs_d101 = true := by decide +kernel
noncomputable def Eb_d102 : e2_E := [(2147483648, 2147583648, 0, 0), (2147483648, 2147483656, 1, 0), (2147483648, 2147483688, 2, 0), (2147483648, 2147483688, 3, 0)]
set_option maxRecDepth 1000000 in
theorem cog_d102 : e2_okGB 4 83 11 as_d102 f_d102 rs_d102 = true := by decide +kernel
noncomputable def Eb_d103 : e2_E := [(2147483648, 2147583648, 0, 0), (2147483648, 2147483656, 1, 0), (2147483648, 2147483688, 2, 0), (2147483648, 2147483688, 3, 0)]
set_option maxRecDepth 1000000 in
theorem cog_d103 : e2_okGB 4 83 11 as_d103 f_d103 rs_d103 = true := by decide +kernel
noncomputable def Eb_d104 : e2_E := [(2147483648, 2147583648, 0, 0), (2147483648, 2147483656, 1, 0), (2147483648, 2147483688, 2, 0), (2147483648, 2147483688, 3, 0)]
set_option maxRecDepth 1000000 in
theorem cog_d104 : e2_okGB 4 83 11 as_d104 f_d104 rs_d104 = true := by decide +kernel
noncomputable def Eb_d105 : e2_E := [(2147483648, 2147583648, 0, 0), (2147483648, 2147483656, 1, 0), (2147483648, 2147483688, 2, 0), (2147483648, 2147483688, 3, 0)]
set_option maxRecDepth 1000000 in
theorem cog_d105 : e2_okGB 4 83 11 as_d105 f_d105 rs_d105 = true := by decide +kernel
noncomputable def Eb_d106 : e2_E := [(2147483648, 2147583648, 0, 0), (2147483648, 2147483656, 1, 0), (2147483648, 2147483688, 2, 0), (2147483648, 2147483688, 3, 0)]
set_option maxRecDepth 1000000 in
theorem cog_d106 : e2_okGB 4 83 11 as_d106 f_d106 rs_d106 = true := by decide +kernel
noncomputable def Eb_d107 : e2_E := [(2147483648, 2147583648, 0, 0), (2147483648, 2147483656, 1, 0), (2147483648, 2147483688, 2, 0), (2147483648, 2147483688, 3, 0)]
set_option maxRecDepth 1000000 in
theorem cog_d107 : e2_okGB 4 83 11 as_d107 f_d107 rs_d107 = true := by decide +kernel
noncomputable def Eb_d108 : e2_E := [(2147483648, 2147583648, 0, 0), (2147483648, 2147483656, 1, 0), (2147483648, 2147483688, 2, 0), (2147483648, 2147483688, 3, 0)]
set_option maxRecDepth 1000000 in
theorem cog_d108 : e2_okGB 4 83 11 as_d108 f_d108 rs_d108 = true := by decide +kernel
noncomputable def Eb_d109 : e2_E := [(2147483648, 2147583648, 0, 0), (2147483648, 2147483656, 1, 0), (2147483648, 2147483688, 2, 0), (2147483648, 2147483688, 3, 0)]
set_option maxRecDepth 1000000 in
theorem cog_d109 : e2_okGB 4 83 11 as_d109 f_d109 rs_d109 = true := by decide +kernel
noncomputable def Eb_d110 : e2_E := [(2147483648, 2147583648, 0, 0), (2147483648, 2147483656, 1, 0), (2147483648, 2147483688, 2, 0), (2147483648, 2147483688, 3, 0)]
set_option maxRecDepth 1000000 in
theorem cog_d110 : e2_okGB 4 83 11 as_d110 f_d110 rs_d110 = true := by decide +kernel
noncomputable def Eb_d111 : e2_E := [(2147483648, 2147583648, 0, 0), (2147483648, 2147483656, 1, 0), (2147483648, 2147483688, 2, 0), (2147483648, 2147483688, 3, 0)]
set_option maxRecDepth 1000000 in
theorem cog_d111 : e2_okGB 4 83 11 as_d111 f_d111 rs_d111 = true := by decide +kernel
noncomputable def Eb_d112 : e2_E := [(2147483648, 2147583648, 0, 0), (2147483648, 2147483656, 1, 0), (2147483648, 2147483688, 2, 0), (2147483648, 2147483688, 3, 0)]
set_option maxRecDepth 1000000 in
theorem cog_d112 : e2_okGB 4 83 11 as_d112 f_d112 rs_d112 = true := by decide +kernel
noncomputable def Eb_d113 : e2_E := [(2147483648, 2147583648, 0, 0), (2147483648, 2147483656, 1, 0), (2147483648, 2147483688, 2, 0), (2147483648, 2147483688, 3, 0)]
set_option maxRecDepth 1000000 in
theorem cog_d113 : e2_okGB 4 83 11 as_d113 f_d113 rs_d113 = true := by decide +kernel
set_option maxRecDepth 1000000 in
theorem co_d114 : e2_okSB E_d114.length as_d114 f_d114 rs_d114 = true := by decide +kernel
def al_d114_21 : List ev_V := [(2, 83, 0), (11, 0, 4294967295), (1, 4, 4294967296), (9, 0, 0), (9, 0, 0)]
def E_d114_21 : e2_E := [(2147483648, 2147583648, 0, 0), (2147483648, 2147483648, 1, 0), (2147483648, 2147483688, 2, 0), (2147483648, 2147483688, 3, 0), (2147483648, 2147483657, 4, 0)]
noncomputable def h_d114_21 : ev_H := (dn1032 : e2_Q8)
def al_d114_22 : List ev_V := [(2, 83, 0), (11, 0, 4294967295), (1, 4, 4294967296), (9, 0, 0), (9, 0, 0)]
def E_d114_22 : e2_E := [(2147483648, 2147583648, 0, 0), (2147483648, 2147483648, 1, 0), (2147483648, 2147483688, 2, 0), (2147483648, 2147483688, 3, 0), (2147483647, 2147483667, 4, 0)]
noncomputable def h_d114_22 : ev_H := (dn1032 : e2_Q8)
def al_d114_23 : List ev_V := [(2, 83, 0), (11, 0, 4294967295), (1, 4, 4294967296), (1, 5, 4294967296), (9, 0, 0)]
def E_d114_23 : e2_E := [(2147483648, 2147583648, 0, 0), (2147483648, 2147483648, 1, 0), (2147483648, 2147483688, 2, 0), (2147483648, 2147483688, 3, 0), (2147483648, 2147483667, 4, 0), (2147483648, 2147483657, 5, 0)]
noncomputable def h_d114_23 : ev_H := (dn1032 : e2_Q8)
noncomputable def h_d114_0 : ev_H := (dn1040 : e2_Q8)
noncomputable def h_d114_1 : ev_H := (dn1040 : e2_Q8)
noncomputable def h_d114_2 : ev_H := (dn1040 : e2_Q8)
noncomputable def h_d114_3 : ev_H := (dn1040 : e2_Q8)
noncomputable def h_d114_4 : ev_H := (dn1040 : e2_Q8)
noncomputable def h_d114_5 : ev_H := (dn1040 : e2_Q8)
noncomputable def h_d114_6 : ev_H := (dn1040 : e2_Q8)
noncomputable def h_d114_7 : ev_H := (dn1040 : e2_Q8)
noncomputable def h_d114_8 : ev_H := (dn1040 : e2_Q8)
noncomputable def h_d114_9 : ev_H := (dn1040 : e2_Q8)
noncomputable def h_d114_10 : ev_H := (dn1040 : e2_Q8)
noncomputable def h_d114_11 : ev_H := (dn1040 : e2_Q8)
noncomputable def h_d114_12 : ev_H := (dn1040 : e2_Q8)
noncomputable def h_d114_13 : ev_H := (dn1040 : e2_Q8)
noncomputable def h_d114_14 : ev_H := (dn1040 : e2_Q8)
noncomputable def h_d114_15 : ev_H := (dn1040 : e2_Q8)
noncomputable def h_d114_16 : ev_H := (dn1040 : e2_Q8)
noncomputable def h_d114_17 : ev_H := (dn1040 : e2_Q8)
noncomputable def h_d114_18 : ev_H := (dn1040 : e2_Q8)
noncomputable def h_d114_19 : ev_H := (dn1040 : e2_Q8)
noncomputable def h_d114_20 : ev_H := (dn1040 : e2_Q8)
noncomputable def cu_d114_120 : List e2_Cu := [([(2, 83, 0), (11, 0, 4294967295), (0, 0, 0), (0, 8, 0), (9, 0, 0)], [(2147483648, 2147583648, 0, 0), (2147483648, 2147483648, 1, 0), (2147483648, 2147483688, 2, 0), (2147483648, 2147483688, 3, 0)], h_d114_0),
  ([(2, 83, 0), (11, 0, 4294967295), (0, 1, 0), (0, 8, 0), (0, 4294967295, 0)], [(2147483648, 2147583648, 0, 0), (2147483648, 2147483648, 1, 0), (2147483648, 2147483688, 2, 0), (2147483648, 2147483688, 3, 0)], h_d114_1),
  ([(2, 83, 0), (11, 0, 4294967295), (0, 2, 0), (0, 8, 0), (0, 4294967295, 0)], [(2147483648, 2147583648, 0, 0), (2147483648, 2147483648, 1, 0), (2147483648, 2147483688, 2, 0), (2147483648, 2147483688, 3, 0)], h_d114_2),
  ([(2, 83, 0), (11, 0, 4294967295), (0, 3, 0), (0, 8, 0), (0, 4294967295, 0)], [(2147483648, 2147583648, 0, 0), (2147483648, 2147483648, 1, 0), (2147483648, 2147483688, 2, 0), (2147483648, 2147483688, 3, 0)], h_d114_3),
  ([(2, 83, 0), (11, 0, 4294967295), (0, 4, 0), (0, 8, 0), (0, 4294967295, 0)], [(2147483648, 2147583648, 0, 0), (2147483648, 2147483648, 1, 0), (2147483648, 2147483688, 2, 0), (2147483648, 2147483688, 3, 0)], h_d114_4),
  ([(2, 83, 0), (11, 0, 4294967295), (0, 5, 0), (0, 8, 0), (0, 4294967295, 0)], [(2147483648, 2147583648, 0, 0), (2147483648, 2147483648, 1, 0), (2147483648, 2147483688, 2, 0), (2147483648, 2147483688, 3, 0)], h_d114_5),
  ([(2, 83, 0), (11, 0, 4294967295), (0, 6, 0), (0, 8, 0), (0, 4294967295, 0)], [(2147483648, 2147583648, 0, 0), (2147483648, 2147483648, 1, 0), (2147483648, 2147483688, 2, 0), (2147483648, 2147483688, 3, 0)], h_d114_6),
  ([(2, 83, 0), (11, 0, 4294967295), (0, 7, 0), (0, 8, 0), (0, 4294967295, 0)], [(2147483648, 2147583648, 0, 0), (2147483648, 2147483648, 1, 0), (2147483648, 2147483688, 2, 0), (2147483648, 2147483688, 3, 0)], h_d114_7),
  ([(2, 83, 0), (11, 0, 4294967295), (0, 8, 0), (0, 8, 0), (0, 4294967295, 0)], [(2147483648, 2147583648, 0, 0), (2147483648, 2147483648, 1, 0), (2147483648, 2147483688, 2, 0), (2147483648, 2147483688, 3, 0)], h_d114_8),
  ([(2, 83, 0), (11, 0, 4294967295), (0, 9, 0), (0, 8, 0), (0, 4294967295, 0)], [(2147483648, 2147583648, 0, 0), (2147483648, 2147483648, 1, 0), (2147483648, 2147483688, 2, 0), (2147483648, 2147483688, 3, 0)], h_d114_9),
  ([(2, 83, 0), (11, 0, 4294967295), (0, 10, 0), (0, 8, 0), (0, 4294967295, 0)], [(2147483648, 2147583648, 0, 0), (2147483648, 2147483648, 1, 0), (2147483648, 2147483688, 2, 0), (2147483648, 2147483688, 3, 0)], h_d114_10),
  ([(2, 83, 0), (11, 0, 4294967295), (0, 11, 0), (0, 8, 0), (0, 4294967295, 0)], [(2147483648, 2147583648, 0, 0), (2147483648, 2147483648, 1, 0), (2147483648, 2147483688, 2, 0), (2147483648, 2147483688, 3, 0)], h_d114_11),
  ([(2, 83, 0), (11, 0, 4294967295), (0, 12, 0), (0, 8, 0), (0, 4294967295, 0)], [(2147483648, 2147583648, 0, 0), (2147483648, 2147483648, 1, 0), (2147483648, 2147483688, 2, 0), (2147483648, 2147483688, 3, 0)], h_d114_12),
  ([(2, 83, 0), (11, 0, 4294967295), (0, 13, 0), (0, 8, 0), (0, 4294967295, 0)], [(2147483648, 2147583648, 0, 0), (2147483648, 2147483648, 1, 0), (2147483648, 2147483688, 2, 0), (2147483648, 2147483688, 3, 0)], h_d114_13),
  ([(2, 83, 0), (11, 0, 4294967295), (0, 14, 0), (0, 8, 0), (0, 4294967295, 0)], [(2147483648, 2147583648, 0, 0), (2147483648, 2147483648, 1, 0), (2147483648, 2147483688, 2, 0), (2147483648, 2147483688, 3, 0)], h_d114_14),
  ([(2, 83, 0), (11, 0, 4294967295), (0, 15, 0), (0, 8, 0), (0, 4294967295, 0)], [(2147483648, 2147583648, 0, 0), (2147483648, 2147483648, 1, 0), (2147483648, 2147483688, 2, 0), (2147483648, 2147483688, 3, 0)], h_d114_15),
  ([(2, 83, 0), (11, 0, 4294967295), (0, 16, 0), (0, 8, 0), (0, 4294967295, 0)], [(2147483648, 2147583648, 0, 0), (2147483648, 2147483648, 1, 0), (2147483648, 2147483688, 2, 0), (2147483648, 2147483688, 3, 0)], h_d114_16),
  ([(2, 83, 0), (11, 0, 4294967295), (0, 17, 0), (0, 8, 0), (0, 4294967295, 0)], [(2147483648, 2147583648, 0, 0), (2147483648, 2147483648, 1, 0), (2147483648, 2147483688, 2, 0), (2147483648, 2147483688, 3, 0)], h_d114_17),
  ([(2, 83, 0), (11, 0, 4294967295), (0, 18, 0), (0, 8, 0), (0, 4294967295, 0)], [(2147483648, 2147583648, 0, 0), (2147483648, 2147483648, 1, 0), (2147483648, 2147483688, 2, 0), (2147483648, 2147483688, 3, 0)], h_d114_18),
  ([(2, 83, 0), (11, 0, 4294967295), (0, 19, 0), (0, 8, 0), (0, 4294967295, 0)], [(2147483648, 2147583648, 0, 0), (2147483648, 2147483648, 1, 0), (2147483648, 2147483688, 2, 0), (2147483648, 2147483688, 3, 0)], h_d114_19),
  ([(2, 83, 0), (11, 0, 4294967295), (0, 20, 0), (0, 8, 0), (0, 4294967295, 0)], [(2147483648, 2147583648, 0, 0), (2147483648, 2147483648, 1, 0), (2147483648, 2147483688, 2, 0), (2147483648, 2147483688, 3, 0)], h_d114_20)]
noncomputable def cl_d114_e : List (Nat × e2_S) := [(2, e2_cutL (al_d114_21.set 2 (11, 2147483648, 2147483657)) 4 (E_d114_21.take 4) h_d114_21)]
set_option maxRecDepth 1000000 in
theorem ck_d114_e : e2_run (e2_orG 231 83 11 4 2147483648 2147483668 as_d113 Eb_d113 f_d113 rs_d113 (e2_orG 231 83 11 4 2147483648 2147483668 as_d112 Eb_d112 f_d112 rs_d112 (e2_orG 231 83 11 4 2147483648 2147483668 as_d111 Eb_d111 f_d111 rs_d111 (e2_orG 231 83 11 4 2147483648 2147483668 as_d110 Eb_d110 f_d110 rs_d110 (e2_orG 231 83 11 4 2147483648 2147483668 as_d109 Eb_d109 f_d109 rs_d109 (e2_orG 231 83 11 4 2147483648 2147483668 as_d108 Eb_d108 f_d108 rs_d108 (e2_orG 231 83 11 4 2147483648 2147483668 as_d107 Eb_d107 f_d107 rs_d107 (e2_orG 231 83 11 4 2147483648 2147483668 as_d106 Eb_d106 f_d106 rs_d106 (e2_orG 231 83 11 4 2147483648 2147483668 as_d105 Eb_d105 f_d105 rs_d105 (e2_orG 231 83 11 4 2147483648 2147483668 as_d104 Eb_d104 f_d104 rs_d104 (e2_orG 231 83 11 4 2147483648 2147483668 as_d103 Eb_d103 f_d103 rs_d103 (e2_orG 231 83 11 4 2147483648 2147483668 as_d102 Eb_d102 f_d102 rs_d102 (e2_orG 231 83 11 4 2147483648 2147483668 as_d101 Eb_d101 f_d101 rs_d101 (e2_orG 231 83 11 4 2147483648 2147483668 as_d100 Eb_d100 f_d100 rs_d100 (e2_orG 231 83 11 4 2147483648 2147483668 as_d99 Eb_d99 f_d99 rs_d99 (e2_orG 231 83 11 4 2147483648 2147483668 as_d98 Eb_d98 f_d98 rs_d98 (e2_orG 231 83 11 4 2147483648 2147483668 as_d97 Eb_d97 f_d97 rs_d97 (e2_orG 231 83 11 4 2147483648 2147483668 as_d96 Eb_d96 f_d96 rs_d96 (e2_orG 231 83 11 4 2147483648 2147483668 as_d95 Eb_d95 f_d95 rs_d95 (e2_orG 231 83 11 4 2147483648 2147483668 as_d94 Eb_d94 f_d94 rs_d94 (e2_cal S_d114 I_d114 4000 1))))))))))))))))))))) (e2_fin rs_d114) e2x_230 (e2_bpL cl_d114_e) (e2_cutA cl_d114_e) 4000 (e2_seek e2x_230 0) (e2_al 5 as_d114) [] E_d114 f_d114 = true := by decide +kernel
noncomputable def cl_d114_21 : List (Nat × e2_S) := [(2, e2_cutL (al_d114_21.set 2 (13, 12, 2147483657)) 4 (E_d114_21.take 4) h_d114_21),
  (49, e2_cutL (al_d114_22.set 2 (11, 2147483647, 2147483667)) 4 (E_d114_22.take 4) h_d114_22)]
set_option maxRecDepth 1000000 in
theorem ck_d114_21 : e2_runM (e2_orG 231 83 11 4 2147483648 2147483668 as_d113 Eb_d113 f_d113 rs_d113 (e2_orG 231 83 11 4 2147483648 2147483668 as_d112 Eb_d112 f_d112 rs_d112 (e2_orG 231 83 11 4 2147483648 2147483668 as_d111 Eb_d111 f_d111 rs_d111 (e2_orG 231 83 11 4 2147483648 2147483668 as_d110 Eb_d110 f_d110 rs_d110 (e2_orG 231 83 11 4 2147483648 2147483668 as_d109 Eb_d109 f_d109 rs_d109 (e2_orG 231 83 11 4 2147483648 2147483668 as_d108 Eb_d108 f_d108 rs_d108 (e2_orG 231 83 11 4 2147483648 2147483668 as_d107 Eb_d107 f_d107 rs_d107 (e2_orG 231 83 11 4 2147483648 2147483668 as_d106 Eb_d106 f_d106 rs_d106 (e2_orG 231 83 11 4 2147483648 2147483668 as_d105 Eb_d105 f_d105 rs_d105 (e2_orG 231 83 11 4 2147483648 2147483668 as_d104 Eb_d104 f_d104 rs_d104 (e2_orG 231 83 11 4 2147483648 2147483668 as_d103 Eb_d103 f_d103 rs_d103 (e2_orG 231 83 11 4 2147483648 2147483668 as_d102 Eb_d102 f_d102 rs_d102 (e2_orG 231 83 11 4 2147483648 2147483668 as_d101 Eb_d101 f_d101 rs_d101 (e2_orG 231 83 11 4 2147483648 2147483668 as_d100 Eb_d100 f_d100 rs_d100 (e2_orG 231 83 11 4 2147483648 2147483668 as_d99 Eb_d99 f_d99 rs_d99 (e2_orG 231 83 11 4 2147483648 2147483668 as_d98 Eb_d98 f_d98 rs_d98 (e2_orG 231 83 11 4 2147483648 2147483668 as_d97 Eb_d97 f_d97 rs_d97 (e2_orG 231 83 11 4 2147483648 2147483668 as_d96 Eb_d96 f_d96 rs_d96 (e2_orG 231 83 11 4 2147483648 2147483668 as_d95 Eb_d95 f_d95 rs_d95 (e2_orG 231 83 11 4 2147483648 2147483668 as_d94 Eb_d94 f_d94 rs_d94 (e2_cal S_d114 I_d114 4000 1))))))))))))))))))))) (e2_fin rs_d114) e2x_230 (e2_bpL cl_d114_21) (e2_cutA cl_d114_21) 4000 (e2_seek e2x_230 2) al_d114_21 [] E_d114_21 h_d114_21 = true := by decide +kernel
set_option maxRecDepth 1000000 in
theorem ci_d114_21 : e2_idl 4 (al_d114_21.set 2 (9, 0, 0)) = true := by decide +kernel
set_option maxRecDepth 1000000 in
theorem cj_d114_21 : e2_idh 4 8 h_d114_21 = true := by decide +kernel
noncomputable def cl_d114_22 : List (Nat × e2_S) := [(120, e2_cutS cu_d114_120),
  (55, e2_cutL (al_d114_23.set 3 (11, 2147483648, 2147483657)) 5 (E_d114_23.take 5) h_d114_23)]
set_option maxRecDepth 1000000 in
theorem ck_d114_22 : e2_runM (e2_orG 231 83 11 4 2147483648 2147483668 as_d113 Eb_d113 f_d113 rs_d113 (e2_orG 231 83 11 4 2147483648 2147483668 as_d112 Eb_d112 f_d112 rs_d112 (e2_orG 231 83 11 4 2147483648 2147483668 as_d111 Eb_d111 f_d111 rs_d111 (e2_orG 231 83 11 4 2147483648 2147483668 as_d110 Eb_d110 f_d110 rs_d110 (e2_orG 231 83 11 4 2147483648 2147483668 as_d109 Eb_d109 f_d109 rs_d109 (e2_orG 231 83 11 4 2147483648 2147483668 as_d108 Eb_d108 f_d108 rs_d108 (e2_orG 231 83 11 4 2147483648 2147483668 as_d107 Eb_d107 f_d107 rs_d107 (e2_orG 231 83 11 4 2147483648 2147483668 as_d106 Eb_d106 f_d106 rs_d106 (e2_orG 231 83 11 4 2147483648 2147483668 as_d105 Eb_d105 f_d105 rs_d105 (e2_orG 231 83 11 4 2147483648 2147483668 as_d104 Eb_d104 f_d104 rs_d104 (e2_orG 231 83 11 4 2147483648 2147483668 as_d103 Eb_d103 f_d103 rs_d103 (e2_orG 231 83 11 4 2147483648 2147483668 as_d102 Eb_d102 f_d102 rs_d102 (e2_orG 231 83 11 4 2147483648 2147483668 as_d101 Eb_d101 f_d101 rs_d101 (e2_orG 231 83 11 4 2147483648 2147483668 as_d100 Eb_d100 f_d100 rs_d100 (e2_orG 231 83 11 4 2147483648 2147483668 as_d99 Eb_d99 f_d99 rs_d99 (e2_orG 231 83 11 4 2147483648 2147483668 as_d98 Eb_d98 f_d98 rs_d98 (e2_orG 231 83 11 4 2147483648 2147483668 as_d97 Eb_d97 f_d97 rs_d97 (e2_orG 231 83 11 4 2147483648 2147483668 as_d96 Eb_d96 f_d96 rs_d96 (e2_orG 231 83 11 4 2147483648 2147483668 as_d95 Eb_d95 f_d95 rs_d95 (e2_orG 231 83 11 4 2147483648 2147483668 as_d94 Eb_d94 f_d94 rs_d94 (e2_cal S_d114 I_d114 4000 1))))))))))))))))))))) (e2_fin rs_d114) e2x_230 (e2_bpL cl_d114_22) (e2_cutA cl_d114_22) 4000 (e2_seek e2x_230 49) al_d114_22 [] E_d114_22 h_d114_22 = true := by decide +kernel
set_option maxRecDepth 1000000 in
theorem ci_d114_22 : e2_idl 4 (al_d114_22.set 2 (9, 0, 0)) = true := by decide +kernel
set_option maxRecDepth 1000000 in
theorem cj_d114_22 : e2_idh 4 8 h_d114_22 = true := by decide +kernel
noncomputable def cl_d114_23 : List (Nat × e2_S) := [(49, e2_cutL (al_d114_22.set 2 (12, 12, 2147483647)) 4 (E_d114_22.take 4) h_d114_22),
  (55, e2_cutL (al_d114_23.set 3 (13, 13, 2147483657)) 5 (E_d114_23.take 5) h_d114_23)]
set_option maxRecDepth 1000000 in
theorem ck_d114_23 : e2_runM (e2_orG 231 83 11 4 2147483648 2147483668 as_d113 Eb_d113 f_d113 rs_d113 (e2_orG 231 83 11 4 2147483648 2147483668 as_d112 Eb_d112 f_d112 rs_d112 (e2_orG 231 83 11 4 2147483648 2147483668 as_d111 Eb_d111 f_d111 rs_d111 (e2_orG 231 83 11 4 2147483648 2147483668 as_d110 Eb_d110 f_d110 rs_d110 (e2_orG 231 83 11 4 2147483648 2147483668 as_d109 Eb_d109 f_d109 rs_d109 (e2_orG 231 83 11 4 2147483648 2147483668 as_d108 Eb_d108 f_d108 rs_d108 (e2_orG 231 83 11 4 2147483648 2147483668 as_d107 Eb_d107 f_d107 rs_d107 (e2_orG 231 83 11 4 2147483648 2147483668 as_d106 Eb_d106 f_d106 rs_d106 (e2_orG 231 83 11 4 2147483648 2147483668 as_d105 Eb_d105 f_d105 rs_d105 (e2_orG 231 83 11 4 2147483648 2147483668 as_d104 Eb_d104 f_d104 rs_d104 (e2_orG 231 83 11 4 2147483648 2147483668 as_d103 Eb_d103 f_d103 rs_d103 (e2_orG 231 83 11 4 2147483648 2147483668 as_d102 Eb_d102 f_d102 rs_d102 (e2_orG 231 83 11 4 2147483648 2147483668 as_d101 Eb_d101 f_d101 rs_d101 (e2_orG 231 83 11 4 2147483648 2147483668 as_d100 Eb_d100 f_d100 rs_d100 (e2_orG 231 83 11 4 2147483648 2147483668 as_d99 Eb_d99 f_d99 rs_d99 (e2_orG 231 83 11 4 2147483648 2147483668 as_d98 Eb_d98 f_d98 rs_d98 (e2_orG 231 83 11 4 2147483648 2147483668 as_d97 Eb_d97 f_d97 rs_d97 (e2_orG 231 83 11 4 2147483648 2147483668 as_d96 Eb_d96 f_d96 rs_d96 (e2_orG 231 83 11 4 2147483648 2147483668 as_d95 Eb_d95 f_d95 rs_d95 (e2_orG 231 83 11 4 2147483648 2147483668 as_d94 Eb_d94 f_d94 rs_d94 (e2_cal S_d114 I_d114 4000 1))))))))))))))))))))) (e2_fin rs_d114) e2x_230 (e2_bpL cl_d114_23) (e2_cutA cl_d114_23) 4000 (e2_seek e2x_230 55) al_d114_23 [] E_d114_23 h_d114_23 = true := by decide +kernel
set_option maxRecDepth 1000000 in
theorem ci_d114_23 : e2_idl 5 (al_d114_23.set 3 (9, 0, 0)) = true := by decide +kernel
set_option maxRecDepth 1000000 in
theorem cj_d114_23 : e2_idh 5 8 h_d114_23 = true := by decide +kernel
set_option maxRecDepth 1000000 in
theorem ck_d114_u120 : e2_cutsB (e2_orG 231 83 11 4 2147483648 2147483668 as_d113 Eb_d113 f_d113 rs_d113 (e2_orG 231 83 11 4 2147483648 2147483668 as_d112 Eb_d112 f_d112 rs_d112 (e2_orG 231 83 11 4 2147483648 2147483668 as_d111 Eb_d111 f_d111 rs_d111 (e2_orG 231 83 11 4 2147483648 2147483668 as_d110 Eb_d110 f_d110 rs_d110 (e2_orG 231 83 11 4 2147483648 2147483668 as_d109 Eb_d109 f_d109 rs_d109 (e2_orG 231 83 11 4 2147483648 2147483668 as_d108 Eb_d108 f_d108 rs_d108 (e2_orG 231 83 11 4 2147483648 2147483668 as_d107 Eb_d107 f_d107 rs_d107 (e2_orG 231 83 11 4 2147483648 2147483668 as_d106 Eb_d106 f_d106 rs_d106 (e2_orG 231 83 11 4 2147483648 2147483668 as_d105 Eb_d105 f_d105 rs_d105 (e2_orG 231 83 11 4 2147483648 2147483668 as_d104 Eb_d104 f_d104 rs_d104 (e2_orG 231 83 11 4 2147483648 2147483668 as_d103 Eb_d103 f_d103 rs_d103 (e2_orG 231 83 11 4 2147483648 2147483668 as_d102 Eb_d102 f_d102 rs_d102 (e2_orG 231 83 11 4 2147483648 2147483668 as_d101 Eb_d101 f_d101 rs_d101 (e2_orG 231 83 11 4 2147483648 2147483668 as_d100 Eb_d100 f_d100 rs_d100 (e2_orG 231 83 11 4 2147483648 2147483668 as_d99 Eb_d99 f_d99 rs_d99 (e2_orG 231 83 11 4 2147483648 2147483668 as_d98 Eb_d98 f_d98 rs_d98 (e2_orG 231 83 11 4 2147483648 2147483668 as_d97 Eb_d97 f_d97 rs_d97 (e2_orG 231 83 11 4 2147483648 2147483668 as_d96 Eb_d96 f_d96 rs_d96 (e2_orG 231 83 11 4 2147483648 2147483668 as_d95 Eb_d95 f_d95 rs_d95 (e2_orG 231 83 11 4 2147483648 2147483668 as_d94 Eb_d94 f_d94 rs_d94 (e2_cal S_d114 I_d114 4000 1))))))))))))))))))))) (e2_fin rs_d114) e2x_230 120 4000 cu_d114_120 = true := by decide +kernel
set_option maxRecDepth 1000000 in
theorem cs_d114 (hen : en_ok) (l : Launch) : e2_smOk l 5 s_d114 := by
  refine e2_conC (H := 4) (C := evd_230) (call := (e2_orG 231 83 11 4 2147483648 2147483668 as_d113 Eb_d113 f_d113 rs_d113 (e2_orG 231 83 11 4 2147483648 2147483668 as_d112 Eb_d112 f_d112 rs_d112 (e2_orG 231 83 11 4 2147483648 2147483668 as_d111 Eb_d111 f_d111 rs_d111 (e2_orG 231 83 11 4 2147483648 2147483668 as_d110 Eb_d110 f_d110 rs_d110 (e2_orG 231 83 11 4 2147483648 2147483668 as_d109 Eb_d109 f_d109 rs_d109 (e2_orG 231 83 11 4 2147483648 2147483668 as_d108 Eb_d108 f_d108 rs_d108 (e2_orG 231 83 11 4 2147483648 2147483668 as_d107 Eb_d107 f_d107 rs_d107 (e2_orG 231 83 11 4 2147483648 2147483668 as_d106 Eb_d106 f_d106 rs_d106 (e2_orG 231 83 11 4 2147483648 2147483668 as_d105 Eb_d105 f_d105 rs_d105 (e2_orG 231 83 11 4 2147483648 2147483668 as_d104 Eb_d104 f_d104 rs_d104 (e2_orG 231 83 11 4 2147483648 2147483668 as_d103 Eb_d103 f_d103 rs_d103 (e2_orG 231 83 11 4 2147483648 2147483668 as_d102 Eb_d102 f_d102 rs_d102 (e2_orG 231 83 11 4 2147483648 2147483668 as_d101 Eb_d101 f_d101 rs_d101 (e2_orG 231 83 11 4 2147483648 2147483668 as_d100 Eb_d100 f_d100 rs_d100 (e2_orG 231 83 11 4 2147483648 2147483668 as_d99 Eb_d99 f_d99 rs_d99 (e2_orG 231 83 11 4 2147483648 2147483668 as_d98 Eb_d98 f_d98 rs_d98 (e2_orG 231 83 11 4 2147483648 2147483668 as_d97 Eb_d97 f_d97 rs_d97 (e2_orG 231 83 11 4 2147483648 2147483668 as_d96 Eb_d96 f_d96 rs_d96 (e2_orG 231 83 11 4 2147483648 2147483668 as_d95 Eb_d95 f_d95 rs_d95 (e2_orG 231 83 11 4 2147483648 2147483668 as_d94 Eb_d94 f_d94 rs_d94 (e2_cal S_d114 I_d114 4000 1)))))))))))))))))))))) ei_230 (fun d hd => (e2_orG_ok (k0 := 231) (a := 83) (j := 11) (n := 4) (lo := 2147483648) (hi := 2147483668) (as0 := as_d113) (Eb := Eb_d113) (f := f_d113) (res := rs_d113) (e2_orG_ok (k0 := 231) (a := 83) (j := 11) (n := 4) (lo := 2147483648) (hi := 2147483668) (as0 := as_d112) (Eb := Eb_d112) (f := f_d112) (res := rs_d112) (e2_orG_ok (k0 := 231) (a := 83) (j := 11) (n := 4) (lo := 2147483648) (hi := 2147483668) (as0 := as_d111) (Eb := Eb_d111) (f := f_d111) (res := rs_d111) (e2_orG_ok (k0 := 231) (a := 83) (j := 11) (n := 4) (lo := 2147483648) (hi := 2147483668) (as0 := as_d110) (Eb := Eb_d110) (f := f_d110) (res := rs_d110) (e2_orG_ok (k0 := 231) (a := 83) (j := 11) (n := 4) (lo := 2147483648) (hi := 2147483668) (as0 := as_d109) (Eb := Eb_d109) (f := f_d109) (res := rs_d109) (e2_orG_ok (k0 := 231) (a := 83) (j := 11) (n := 4) (lo := 2147483648) (hi := 2147483668) (as0 := as_d108) (Eb := Eb_d108) (f := f_d108) (res := rs_d108) (e2_orG_ok (k0 := 231) (a := 83) (j := 11) (n := 4) (lo := 2147483648) (hi := 2147483668) (as0 := as_d107) (Eb := Eb_d107) (f := f_d107) (res := rs_d107) (e2_orG_ok (k0 := 231) (a := 83) (j := 11) (n := 4) (lo := 2147483648) (hi := 2147483668) (as0 := as_d106) (Eb := Eb_d106) (f := f_d106) (res := rs_d106) (e2_orG_ok (k0 := 231) (a := 83) (j := 11) (n := 4) (lo := 2147483648) (hi := 2147483668) (as0 := as_d105) (Eb := Eb_d105) (f := f_d105) (res := rs_d105) (e2_orG_ok (k0 := 231) (a := 83) (j := 11) (n := 4) (lo := 2147483648) (hi := 2147483668) (as0 := as_d104) (Eb := Eb_d104) (f := f_d104) (res := rs_d104) (e2_orG_ok (k0 := 231) (a := 83) (j := 11) (n := 4) (lo := 2147483648) (hi := 2147483668) (as0 := as_d103) (Eb := Eb_d103) (f := f_d103) (res := rs_d103) (e2_orG_ok (k0 := 231) (a := 83) (j := 11) (n := 4) (lo := 2147483648) (hi := 2147483668) (as0 := as_d102) (Eb := Eb_d102) (f := f_d102) (res := rs_d102) (e2_orG_ok (k0 := 231) (a := 83) (j := 11) (n := 4) (lo := 2147483648) (hi := 2147483668) (as0 := as_d101) (Eb := Eb_d101) (f := f_d101) (res := rs_d101) (e2_orG_ok (k0 := 231) (a := 83) (j := 11) (n := 4) (lo := 2147483648) (hi := 2147483668) (as0 := as_d100) (Eb := Eb_d100) (f := f_d100) (res := rs_d100) (e2_orG_ok (k0 := 231) (a := 83) (j := 11) (n := 4) (lo := 2147483648) (hi := 2147483668) (as0 := as_d99) (Eb := Eb_d99) (f := f_d99) (res := rs_d99) (e2_orG_ok (k0 := 231) (a := 83) (j := 11) (n := 4) (lo := 2147483648) (hi := 2147483668) (as0 := as_d98) (Eb := Eb_d98) (f := f_d98) (res := rs_d98) (e2_orG_ok (k0 := 231) (a := 83) (j := 11) (n := 4) (lo := 2147483648) (hi := 2147483668) (as0 := as_d97) (Eb := Eb_d97) (f := f_d97) (res := rs_d97) (e2_orG_ok (k0 := 231) (a := 83) (j := 11) (n := 4) (lo := 2147483648) (hi := 2147483668) (as0 := as_d96) (Eb := Eb_d96) (f := f_d96) (res := rs_d96) (e2_orG_ok (k0 := 231) (a := 83) (j := 11) (n := 4) (lo := 2147483648) (hi := 2147483668) (as0 := as_d95) (Eb := Eb_d95) (f := f_d95) (res := rs_d95) (e2_orG_ok (k0 := 231) (a := 83) (j := 11) (n := 4) (lo := 2147483648) (hi := 2147483668) (as0 := as_d94) (Eb := Eb_d94) (f := f_d94) (res := rs_d94) (e2_cal_ok hen (e2_fa (cs_d44 hen l) (e2_fa (cs_d45 hen l) (e2_fa (cs_d46 hen l) (e2_fa (cs_d47 hen l) (e2_fa (cs_d48 hen l) (e2_fa (cs_d49 hen l) (e2_fa (cs_d50 hen l) (e2_fa (cs_d51 hen l) (e2_fa (cs_d52 hen l) (e2_fa (cs_d53 hen l) (e2_fa (cs_d54 hen l) (e2_fa (cs_d55 hen l) (e2_fa (cs_d56 hen l) (e2_fa (cs_d57 hen l) (e2_fa (cs_d58 hen l) (e2_fa (cs_d59 hen l) (e2_fa (cs_d60 hen l) (e2_fa (cs_d61 hen l) (e2_fa (cs_d62 hen l) (e2_fa (cs_d63 hen l) e2_fz)))))))))))))))))))) (e2_fa ein_216 (e2_fa ein_217 (e2_fa ein_227 e2_fz))) 1 d (by omega)) rfl (by decide +kernel) (fun M hM => (cs_d94 hen l).2 M hM d (by omega)) (e2_okGB_ok cog_d94)) rfl (by decide +kernel) (fun M hM => (cs_d95 hen l).2 M hM d (by omega)) (e2_okGB_ok cog_d95)) rfl (by decide +kernel) (fun M hM => (cs_d96 hen l).2 M hM d (by omega)) (e2_okGB_ok cog_d96)) rfl (by decide +kernel) (fun M hM => (cs_d97 hen l).2 M hM d (by omega)) (e2_okGB_ok cog_d97)) rfl (by decide +kernel) (fun M hM => (cs_d98 hen l).2 M hM d (by omega)) (e2_okGB_ok cog_d98)) rfl (by decide +kernel) (fun M hM => (cs_d99 hen l).2 M hM d (by omega)) (e2_okGB_ok cog_d99)) rfl (by decide +kernel) (fun M hM => (cs_d100 hen l).2 M hM d (by omega)) (e2_okGB_ok cog_d100)) rfl (by decide +kernel) (fun M hM => (cs_d101 hen l).2 M hM d (by omega)) (e2_okGB_ok cog_d101)) rfl (by decide +kernel) (fun M hM => (cs_d102 hen l).2 M hM d (by omega)) (e2_okGB_ok cog_d102)) rfl (by decide +kernel) (fun M hM => (cs_d103 hen l).2 M hM d (by omega)) (e2_okGB_ok cog_d103)) rfl (by decide +kernel) (fun M hM => (cs_d104 hen l).2 M hM d (by omega)) (e2_okGB_ok cog_d104)) rfl (by decide +kernel) (fun M hM => (cs_d105 hen l).2 M hM d (by omega)) (e2_okGB_ok cog_d105)) rfl (by decide +kernel) (fun M hM => (cs_d106 hen l).2 M hM d (by omega)) (e2_okGB_ok cog_d106)) rfl (by decide +kernel) (fun M hM => (cs_d107 hen l).2 M hM d (by omega)) (e2_okGB_ok cog_d107)) rfl (by decide +kernel) (fun M hM => (cs_d108 hen l).2 M hM d (by omega)) (e2_okGB_ok cog_d108)) rfl (by decide +kernel) (fun M hM => (cs_d109 hen l).2 M hM d (by omega)) (e2_okGB_ok cog_d109)) rfl (by decide +kernel) (fun M hM => (cs_d110 hen l).2 M hM d (by omega)) (e2_okGB_ok cog_d110)) rfl (by decide +kernel) (fun M hM => (cs_d111 hen l).2 M hM d (by omega)) (e2_okGB_ok cog_d111)) rfl (by decide +kernel) (fun M hM => (cs_d112 hen l).2 M hM d (by omega)) (e2_okGB_ok cog_d112)) rfl (by decide +kernel) (fun M hM => (cs_d113 hen l).2 M hM d (by omega)) (e2_okGB_ok cog_d113))) (by decide) co_d114 fun M d _ hC hcall p e R s m args below meth c Q D cA A ads r0 ha hl0 => ?_
  have EN_120 := e2_cutS_ok (bp := 120) (cuts := cu_d114_120) (e2_cuts_len hl0 (by decide +kernel)) (e2_cuts_ok hen ha hcall (hC [76, 192, 195]) (X := e2x_230) ex2_230 (e2_cuts_len hl0 (by decide +kernel)) ck_d114_u120)
  have L_22 : e2_gdM M p l e R s m args below meth c Q D cA A ads r0 49 al_d114_22 [] E_d114_22 h_d114_22 := by
    refine e2_indD (u := 4) (j := 2) (lo := 2147483647) (hi := 2147483667) hl0 (by decide) rfl rfl rfl ci_d114_22 cj_d114_22 ?_
    intro r_22 k_22 hk_22 hp_22 hs_22 hn_22
    have hl_22 : r_22.length ≤ 5 := hs_22.len rfl
    have ha_22 := ha.ext hp_22
    have L_23 : e2_gdM M p l e R s m args below meth c Q D cA A ads r_22 55 al_d114_23 [] E_d114_23 h_d114_23 := by
      refine e2_indL (u := 5) (j := 3) (lo := 2147483648) (hi := 2147483657) (b := 5) (dd := 0) hl_22 (by decide) rfl rfl (Or.inr ⟨rfl, rfl⟩) rfl ci_d114_23 cj_d114_23 ?_
      intro r_23 k_23 hk_23 hp_23 hs_23 hn_23
      have hl_23 : r_23.length ≤ 6 := hs_23.len rfl
      have ha_23 := ha_22.ext hp_23
      exact e2_fromM hen ha_23 hcall (e2_cutA_ok (e2_fa (fun al st E h hc => (hn_22 al st E h hc).ext hp_23) (e2_fa (fun al st E h hc => hn_23 al st E h hc) e2_fz))) (hC [76, 192, 195]) (X := e2x_230) ex2_230 55 ck_d114_23
    have EN_23 := e2_entL (u := 5) (j := 3) (lo := 2147483648) (hi := 2147483657) hl_22 rfl rfl rfl ci_d114_23 cj_d114_23 L_23
    exact e2_fromM hen ha_22 hcall (e2_cutA_ok (e2_fa (fun al st E h hc => (EN_120 al st E h hc).ext hp_22) (e2_fa (fun al st E h hc => EN_23 al st E h hc) e2_fz))) (hC [76, 192, 195]) (X := e2x_230) ex2_230 49 ck_d114_22
  have EN_22 := e2_entL (u := 4) (j := 2) (lo := 2147483647) (hi := 2147483667) hl0 rfl rfl rfl ci_d114_22 cj_d114_22 L_22
  have L_21 : e2_gdM M p l e R s m args below meth c Q D cA A ads r0 2 al_d114_21 [] E_d114_21 h_d114_21 := by
    refine e2_indL (u := 4) (j := 2) (lo := 2147483648) (hi := 2147483657) (b := 4) (dd := 0) hl0 (by decide) rfl rfl (Or.inr ⟨rfl, rfl⟩) rfl ci_d114_21 cj_d114_21 ?_
    intro r_21 k_21 hk_21 hp_21 hs_21 hn_21
    have hl_21 : r_21.length ≤ 5 := hs_21.len rfl
    have ha_21 := ha.ext hp_21
    exact e2_fromM hen ha_21 hcall (e2_cutA_ok (e2_fa (fun al st E h hc => hn_21 al st E h hc) (e2_fa (fun al st E h hc => (EN_22 al st E h hc).ext hp_21) e2_fz))) (hC [76, 192, 195]) (X := e2x_230) ex2_230 2 ck_d114_21
  have EN_21 := e2_entL (u := 4) (j := 2) (lo := 2147483648) (hi := 2147483657) hl0 rfl rfl rfl ci_d114_21 cj_d114_21 L_21
  exact e2_from hen ha hcall (e2_cutA_ok (e2_fa (fun al st E h hc => EN_21 al st E h hc) e2_fz)) (hC [76, 192, 195]) (X := e2x_230) ex2_230 0 ck_d114_e
/-! d115 X10_read -/
def as_d115 : List ev_V := [(2, 83, 0), (11, 0, 4294967295)]
def E_d115 : e2_E := [(2147483648, 2147583648, 0, 0), (2147483649, 2147483649, 1, 0), (2147483648, 2147483688, 2, 0), (2147483648, 2147483688, 3, 0)]
def dn1041 : e2_Q7 := (dn504, dn457)
def dn1042 : e2_Q8 := (dn477, dn1041)
noncomputable def f_d115 : ev_H := (dn1042 : e2_Q8)
noncomputable def q_d115_0 : ev_H := (dn1042 : e2_Q8)
noncomputable def rs_d115 : e2_Rs := [((11, 2147483647, 2147483668), q_d115_0)]
noncomputable def s_d115 : e2_Sm := (230, as_d115, E_d115, f_d115, rs_d115)
noncomputable def S_d115 : List e2_Sm := [s_d44, s_d45, s_d46, s_d47, s_d48, s_d49, s_d50, s_d51, s_d52, s_d53, s_d54, s_d55, s_d56, s_d57, s_d58, s_d59, s_d60, s_d61, s_d62, s_d63]
noncomputable def I_d115 : List e2_In := [(216, 1, e2x_216), (217, 1, e2x_217), (227, 2, e2x_227)]
set_option maxRecDepth 1000000 in
theorem co_d115 : e2_okSB E_d115.length as_d115 f_d115 rs_d115 = true := by decide +kernel
def al_d115_26 : List ev_V := [(2, 83, 0), (11, 0, 4294967295), (1, 4, 4294967296), (9, 0, 0), (9, 0, 0)]
def E_d115_26 : e2_E := [(2147483648, 2147583648, 0, 0), (2147483649, 2147483649, 1, 0), (2147483648, 2147483688, 2, 0), (2147483648, 2147483688, 3, 0), (2147483648, 2147483657, 4, 0)]
noncomputable def h_d115_26 : ev_H := (dn1042 : e2_Q8)
def al_d115_27 : List ev_V := [(2, 83, 0), (11, 0, 4294967295), (1, 4, 4294967296), (9, 0, 0), (9, 0, 0)]
def E_d115_27 : e2_E := [(2147483648, 2147583648, 0, 0), (2147483649, 2147483649, 1, 0), (2147483648, 2147483688, 2, 0), (2147483648, 2147483688, 3, 0), (2147483647, 2147483667, 4, 0)]
noncomputable def h_d115_27 : ev_H := (dn1042 : e2_Q8)
def al_d115_28 : List ev_V := [(2, 83, 0), (11, 0, 4294967295), (1, 4, 4294967296), (1, 5, 4294967296), (9, 0, 0)]
def E_d115_28 : e2_E := [(2147483648, 2147583648, 0, 0), (2147483649, 2147483649, 1, 0), (2147483648, 2147483688, 2, 0), (2147483648, 2147483688, 3, 0), (2147483648, 2147483667, 4, 0), (2147483648, 2147483657, 5, 0)]
noncomputable def h_d115_28 : ev_H := (dn1042 : e2_Q8)
def dn1043 : e2_Q7 := (dn504, dn1038)
def dn1044 : e2_Q8 := (dn477, dn1043)
noncomputable def h_d115_0 : ev_H := (dn1044 : e2_Q8)
def dc192 : ev_C := (10, [(0, 1, 0), (2, 88, 0), (2, 115, 0), (2, 114, 0), (2, 86, 0), (2, 112, 0), (11, 2147483648, 2147483688), (2, 118, 0), (2, 120, 0), (2, 131, 0), (2, 91, 0), (11, 2147483648, 2147483649), (2, 123, 0), (11, 2147483648, 2147483649), (11, 2147483648, 2147485248), (2, 87, 0), (2, 84, 0), (2, 122, 0), (2, 100, 0), (2, 132, 0), (11, 2147483648, 2147483668), (11, 2147483648, 2147485248), (1, 0, 4294967296), (11, 0, 4294967295), (11, 2147483648, 2147485248), (2, 93, 0), (2, 104, 0), (11, 2147483648, 2147483678), (2, 89, 0), (2, 92, 0), (2, 119, 0), (2, 90, 0), (2, 94, 0), (2, 103, 0), (0, 0, 0), (11, 0, 4294967295), (11, 0, 4294967295), (11, 2147483648, 2147485249), (11, 2147483648, 2147483653), (11, 2147483648, 2147483668), (2, 85, 0), (11, 2147483648, 2147493647), (5, 0, 0), (2, 95, 0), (2, 96, 0), (2, 97, 0), (2, 98, 0), (2, 99, 0), (2, 101, 0), (2, 102, 0), (2, 105, 0), (2, 106, 0), (2, 107, 0), (2, 108, 0), (2, 109, 0), (2, 110, 0), (2, 111, 0), (11, 2147483648, 2147484768), (11, 2147482048, 2147483655), (11, 2147483648, 2147483738), (11, 2147483648, 2147483678), (11, 0, 4294967295), (11, 0, 4294967295), (11, 0, 4294967295), (11, 0, 4294967295), (11, 0, 4294967295), (2, 113, 0), (2, 116, 0), (2, 117, 0), (2, 121, 0), (11, 0, 4294967295), (11, 0, 4294967295), (2, 124, 0), (2, 125, 0), (11, 0, 4294967295), (2, 126, 0), (2, 127, 0), (2, 128, 0), (2, 129, 0), (2, 130, 0)])
def dn1045 : e2_Q1 := (dc192, dc3)
def dn1046 : e2_Q2 := (dn197, dn1045)
def dn1047 : e2_Q3 := (dn1046, dn447)
def dn1048 : e2_Q4 := (dn196, dn1047)
def dn1049 : e2_Q5 := (dn1048, dn219)
def dn1050 : e2_Q6 := (dn1049, dn251)
def dn1051 : e2_Q7 := (dn504, dn1050)
def dn1052 : e2_Q8 := (dn477, dn1051)
noncomputable def h_d115_1 : ev_H := (dn1052 : e2_Q8)
def dc193 : ev_C := (10, [(0, 1, 0), (2, 88, 0), (2, 115, 0), (2, 114, 0), (2, 86, 0), (2, 112, 0), (11, 2147483648, 2147483688), (2, 118, 0), (2, 120, 0), (2, 131, 0), (2, 91, 0), (11, 2147483648, 2147483650), (2, 123, 0), (11, 2147483648, 2147483649), (11, 2147483648, 2147485248), (2, 87, 0), (2, 84, 0), (2, 122, 0), (2, 100, 0), (2, 132, 0), (11, 2147483648, 2147483668), (11, 2147483648, 2147485248), (1, 0, 4294967296), (11, 0, 4294967295), (11, 2147483648, 2147485248), (2, 93, 0), (2, 104, 0), (11, 2147483648, 2147483678), (2, 89, 0), (2, 92, 0), (2, 119, 0), (2, 90, 0), (2, 94, 0), (2, 103, 0), (0, 0, 0), (11, 0, 4294967295), (11, 0, 4294967295), (11, 2147483648, 2147485249), (11, 2147483648, 2147483653), (11, 2147483648, 2147483668), (2, 85, 0), (11, 2147483648, 2147493647), (5, 0, 0), (2, 95, 0), (2, 96, 0), (2, 97, 0), (2, 98, 0), (2, 99, 0), (2, 101, 0), (2, 102, 0), (2, 105, 0), (2, 106, 0), (2, 107, 0), (2, 108, 0), (2, 109, 0), (2, 110, 0), (2, 111, 0), (11, 2147483648, 2147484768), (11, 2147482048, 2147483655), (11, 2147483648, 2147483738), (11, 2147483648, 2147483678), (11, 0, 4294967295), (11, 0, 4294967295), (11, 0, 4294967295), (11, 0, 4294967295), (11, 0, 4294967295), (2, 113, 0), (2, 116, 0), (2, 117, 0), (2, 121, 0), (11, 0, 4294967295), (11, 0, 4294967295), (2, 124, 0), (2, 125, 0), (11, 0, 4294967295), (2, 126, 0), (2, 127, 0), (2, 128, 0), (2, 129, 0), (2, 130, 0)])
def dn1053 : e2_Q1 := (dc193, dc3)
def dn1054 : e2_Q2 := (dn197, dn1053)
def dn1055 : e2_Q3 := (dn1054, dn447)
def dn1056 : e2_Q4 := (dn196, dn1055)
def dn1057 : e2_Q5 := (dn1056, dn219)
def dn1058 : e2_Q6 := (dn1057, dn251)
def dn1059 : e2_Q7 := (dn504, dn1058)
def dn1060 : e2_Q8 := (dn477, dn1059)
noncomputable def h_d115_2 : ev_H := (dn1060 : e2_Q8)
def dc194 : ev_C := (10, [(0, 1, 0), (2, 88, 0), (2, 115, 0), (2, 114, 0), (2, 86, 0), (2, 112, 0), (11, 2147483648, 2147483688), (2, 118, 0), (2, 120, 0), (2, 131, 0), (2, 91, 0), (11, 2147483648, 2147483651), (2, 123, 0), (11, 2147483648, 2147483649), (11, 2147483648, 2147485248), (2, 87, 0), (2, 84, 0), (2, 122, 0), (2, 100, 0), (2, 132, 0), (11, 2147483648, 2147483668), (11, 2147483648, 2147485248), (1, 0, 4294967296), (11, 0, 4294967295), (11, 2147483648, 2147485248), (2, 93, 0), (2, 104, 0), (11, 2147483648, 2147483678), (2, 89, 0), (2, 92, 0), (2, 119, 0), (2, 90, 0), (2, 94, 0), (2, 103, 0), (0, 0, 0), (11, 0, 4294967295), (11, 0, 4294967295), (11, 2147483648, 2147485249), (11, 2147483648, 2147483653), (11, 2147483648, 2147483668), (2, 85, 0), (11, 2147483648, 2147493647), (5, 0, 0), (2, 95, 0), (2, 96, 0), (2, 97, 0), (2, 98, 0), (2, 99, 0), (2, 101, 0), (2, 102, 0), (2, 105, 0), (2, 106, 0), (2, 107, 0), (2, 108, 0), (2, 109, 0), (2, 110, 0), (2, 111, 0), (11, 2147483648, 2147484768), (11, 2147482048, 2147483655), (11, 2147483648, 2147483738), (11, 2147483648, 2147483678), (11, 0, 4294967295), (11, 0, 4294967295), (11, 0, 4294967295), (11, 0, 4294967295), (11, 0, 4294967295), (2, 113, 0), (2, 116, 0), (2, 117, 0), (2, 121, 0), (11, 0, 4294967295), (11, 0, 4294967295), (2, 124, 0), (2, 125, 0), (11, 0, 4294967295), (2, 126, 0), (2, 127, 0), (2, 128, 0), (2, 129, 0), (2, 130, 0)])
def dn1061 : e2_Q1 := (dc194, dc3)
def dn1062 : e2_Q2 := (dn197, dn1061)
def dn1063 : e2_Q3 := (dn1062, dn447)
def dn1064 : e2_Q4 := (dn196, dn1063)
def dn1065 : e2_Q5 := (dn1064, dn219)
def dn1066 : e2_Q6 := (dn1065, dn251)
def dn1067 : e2_Q7 := (dn504, dn1066)
def dn1068 : e2_Q8 := (dn477, dn1067)
noncomputable def h_d115_3 : ev_H := (dn1068 : e2_Q8)
def dc195 : ev_C := (10, [(0, 1, 0), (2, 88, 0), (2, 115, 0), (2, 114, 0), (2, 86, 0), (2, 112, 0), (11, 2147483648, 2147483688), (2, 118, 0), (2, 120, 0), (2, 131, 0), (2, 91, 0), (11, 2147483648, 2147483652), (2, 123, 0), (11, 2147483648, 2147483649), (11, 2147483648, 2147485248), (2, 87, 0), (2, 84, 0), (2, 122, 0), (2, 100, 0), (2, 132, 0), (11, 2147483648, 2147483668), (11, 2147483648, 2147485248), (1, 0, 4294967296), (11, 0, 4294967295), (11, 2147483648, 2147485248), (2, 93, 0), (2, 104, 0), (11, 2147483648, 2147483678), (2, 89, 0), (2, 92, 0), (2, 119, 0), (2, 90, 0), (2, 94, 0), (2, 103, 0), (0, 0, 0), (11, 0, 4294967295), (11, 0, 4294967295), (11, 2147483648, 2147485249), (11, 2147483648, 2147483653), (11, 2147483648, 2147483668), (2, 85, 0), (11, 2147483648, 2147493647), (5, 0, 0), (2, 95, 0), (2, 96, 0), (2, 97, 0), (2, 98, 0), (2, 99, 0), (2, 101, 0), (2, 102, 0), (2, 105, 0), (2, 106, 0), (2, 107, 0), (2, 108, 0), (2, 109, 0), (2, 110, 0), (2, 111, 0), (11, 2147483648, 2147484768), (11, 2147482048, 2147483655), (11, 2147483648, 2147483738), (11, 2147483648, 2147483678), (11, 0, 4294967295), (11, 0, 4294967295), (11, 0, 4294967295), (11, 0, 4294967295), (11, 0, 4294967295), (2, 113, 0), (2, 116, 0), (2, 117, 0), (2, 121, 0), (11, 0, 4294967295), (11, 0, 4294967295), (2, 124, 0), (2, 125, 0), (11, 0, 4294967295), (2, 126, 0), (2, 127, 0), (2, 128, 0), (2, 129, 0), (2, 130, 0)])
def dn1069 : e2_Q1 := (dc195, dc3)
def dn1070 : e2_Q2 := (dn197, dn1069)
def dn1071 : e2_Q3 := (dn1070, dn447)
def dn1072 : e2_Q4 := (dn196, dn1071)
def dn1073 : e2_Q5 := (dn1072, dn219)
def dn1074 : e2_Q6 := (dn1073, dn251)
def dn1075 : e2_Q7 := (dn504, dn1074)
def dn1076 : e2_Q8 := (dn477, dn1075)
noncomputable def h_d115_4 : ev_H := (dn1076 : e2_Q8)
def dc196 : ev_C := (10, [(0, 1, 0), (2, 88, 0), (2, 115, 0), (2, 114, 0), (2, 86, 0), (2, 112, 0), (11, 2147483648, 2147483688), (2, 118, 0), (2, 120, 0), (2, 131, 0), (2, 91, 0), (11, 2147483648, 2147483653), (2, 123, 0), (11, 2147483648, 2147483649), (11, 2147483648, 2147485248), (2, 87, 0), (2, 84, 0), (2, 122, 0), (2, 100, 0), (2, 132, 0), (11, 2147483648, 2147483668), (11, 2147483648, 2147485248), (1, 0, 4294967296), (11, 0, 4294967295), (11, 2147483648, 2147485248), (2, 93, 0), (2, 104, 0), (11, 2147483648, 2147483678), (2, 89, 0), (2, 92, 0), (2, 119, 0), (2, 90, 0), (2, 94, 0), (2, 103, 0), (0, 0, 0), (11, 0, 4294967295), (11, 0, 4294967295), (11, 2147483648, 2147485249), (11, 2147483648, 2147483653), (11, 2147483648, 2147483668), (2, 85, 0), (11, 2147483648, 2147493647), (5, 0, 0), (2, 95, 0), (2, 96, 0), (2, 97, 0), (2, 98, 0), (2, 99, 0), (2, 101, 0), (2, 102, 0), (2, 105, 0), (2, 106, 0), (2, 107, 0), (2, 108, 0), (2, 109, 0), (2, 110, 0), (2, 111, 0), (11, 2147483648, 2147484768), (11, 2147482048, 2147483655), (11, 2147483648, 2147483738), (11, 2147483648, 2147483678), (11, 0, 4294967295), (11, 0, 4294967295), (11, 0, 4294967295), (11, 0, 4294967295), (11, 0, 4294967295), (2, 113, 0), (2, 116, 0), (2, 117, 0), (2, 121, 0), (11, 0, 4294967295), (11, 0, 4294967295), (2, 124, 0), (2, 125, 0), (11, 0, 4294967295), (2, 126, 0), (2, 127, 0), (2, 128, 0), (2, 129, 0), (2, 130, 0)])
def dn1077 : e2_Q1 := (dc196, dc3)
def dn1078 : e2_Q2 := (dn197, dn1077)
def dn1079 : e2_Q3 := (dn1078, dn447)
def dn1080 : e2_Q4 := (dn196, dn1079)
def dn1081 : e2_Q5 := (dn1080, dn219)
def dn1082 : e2_Q6 := (dn1081, dn251)
def dn1083 : e2_Q7 := (dn504, dn1082)
def dn1084 : e2_Q8 := (dn477, dn1083)
noncomputable def h_d115_5 : ev_H := (dn1084 : e2_Q8)
def dc197 : ev_C := (10, [(0, 1, 0), (2, 88, 0), (2, 115, 0), (2, 114, 0), (2, 86, 0), (2, 112, 0), (11, 2147483648, 2147483688), (2, 118, 0), (2, 120, 0), (2, 131, 0), (2, 91, 0), (11, 2147483648, 2147483654), (2, 123, 0), (11, 2147483648, 2147483649), (11, 2147483648, 2147485248), (2, 87, 0), (2, 84, 0), (2, 122, 0), (2, 100, 0), (2, 132, 0), (11, 2147483648, 2147483668), (11, 2147483648, 2147485248), (1, 0, 4294967296), (11, 0, 4294967295), (11, 2147483648, 2147485248), (2, 93, 0), (2, 104, 0), (11, 2147483648, 2147483678), (2, 89, 0), (2, 92, 0), (2, 119, 0), (2, 90, 0), (2, 94, 0), (2, 103, 0), (0, 0, 0), (11, 0, 4294967295), (11, 0, 4294967295), (11, 2147483648, 2147485249), (11, 2147483648, 2147483653), (11, 2147483648, 2147483668), (2, 85, 0), (11, 2147483648, 2147493647), (5, 0, 0), (2, 95, 0), (2, 96, 0), (2, 97, 0), (2, 98, 0), (2, 99, 0), (2, 101, 0), (2, 102, 0), (2, 105, 0), (2, 106, 0), (2, 107, 0), (2, 108, 0), (2, 109, 0), (2, 110, 0), (2, 111, 0), (11, 2147483648, 2147484768), (11, 2147482048, 2147483655), (11, 2147483648, 2147483738), (11, 2147483648, 2147483678), (11, 0, 4294967295), (11, 0, 4294967295), (11, 0, 4294967295), (11, 0, 4294967295), (11, 0, 4294967295), (2, 113, 0), (2, 116, 0), (2, 117, 0), (2, 121, 0), (11, 0, 4294967295), (11, 0, 4294967295), (2, 124, 0), (2, 125, 0), (11, 0, 4294967295), (2, 126, 0), (2, 127, 0), (2, 128, 0), (2, 129, 0), (2, 130, 0)])
def dn1085 : e2_Q1 := (dc197, dc3)
def dn1086 : e2_Q2 := (dn197, dn1085)
def dn1087 : e2_Q3 := (dn1086, dn447)
def dn1088 : e2_Q4 := (dn196, dn1087)
def dn1089 : e2_Q5 := (dn1088, dn219)
def dn1090 : e2_Q6 := (dn1089, dn251)
def dn1091 : e2_Q7 := (dn504, dn1090)
def dn1092 : e2_Q8 := (dn477, dn1091)
noncomputable def h_d115_6 : ev_H := (dn1092 : e2_Q8)
def dc198 : ev_C := (10, [(0, 1, 0), (2, 88, 0), (2, 115, 0), (2, 114, 0), (2, 86, 0), (2, 112, 0), (11, 2147483648, 2147483688), (2, 118, 0), (2, 120, 0), (2, 131, 0), (2, 91, 0), (11, 2147483648, 2147483655), (2, 123, 0), (11, 2147483648, 2147483649), (11, 2147483648, 2147485248), (2, 87, 0), (2, 84, 0), (2, 122, 0), (2, 100, 0), (2, 132, 0), (11, 2147483648, 2147483668), (11, 2147483648, 2147485248), (1, 0, 4294967296), (11, 0, 4294967295), (11, 2147483648, 2147485248), (2, 93, 0), (2, 104, 0), (11, 2147483648, 2147483678), (2, 89, 0), (2, 92, 0), (2, 119, 0), (2, 90, 0), (2, 94, 0), (2, 103, 0), (0, 0, 0), (11, 0, 4294967295), (11, 0, 4294967295), (11, 2147483648, 2147485249), (11, 2147483648, 2147483653), (11, 2147483648, 2147483668), (2, 85, 0), (11, 2147483648, 2147493647), (5, 0, 0), (2, 95, 0), (2, 96, 0), (2, 97, 0), (2, 98, 0), (2, 99, 0), (2, 101, 0), (2, 102, 0), (2, 105, 0), (2, 106, 0), (2, 107, 0), (2, 108, 0), (2, 109, 0), (2, 110, 0), (2, 111, 0), (11, 2147483648, 2147484768), (11, 2147482048, 2147483655), (11, 2147483648, 2147483738), (11, 2147483648, 2147483678), (11, 0, 4294967295), (11, 0, 4294967295), (11, 0, 4294967295), (11, 0, 4294967295), (11, 0, 4294967295), (2, 113, 0), (2, 116, 0), (2, 117, 0), (2, 121, 0), (11, 0, 4294967295), (11, 0, 4294967295), (2, 124, 0), (2, 125, 0), (11, 0, 4294967295), (2, 126, 0), (2, 127, 0), (2, 128, 0), (2, 129, 0), (2, 130, 0)])
def dn1093 : e2_Q1 := (dc198, dc3)
def dn1094 : e2_Q2 := (dn197, dn1093)
def dn1095 : e2_Q3 := (dn1094, dn447)
def dn1096 : e2_Q4 := (dn196, dn1095)
def dn1097 : e2_Q5 := (dn1096, dn219)
def dn1098 : e2_Q6 := (dn1097, dn251)
def dn1099 : e2_Q7 := (dn504, dn1098)
def dn1100 : e2_Q8 := (dn477, dn1099)
noncomputable def h_d115_7 : ev_H := (dn1100 : e2_Q8)
def dc199 : ev_C := (10, [(0, 1, 0), (2, 88, 0), (2, 115, 0), (2, 114, 0), (2, 86, 0), (2, 112, 0), (11, 2147483648, 2147483688), (2, 118, 0), (2, 120, 0), (2, 131, 0), (2, 91, 0), (11, 2147483648, 2147483656), (2, 123, 0), (11, 2147483648, 2147483649), (11, 2147483648, 2147485248), (2, 87, 0), (2, 84, 0), (2, 122, 0), (2, 100, 0), (2, 132, 0), (11, 2147483648, 2147483668), (11, 2147483648, 2147485248), (1, 0, 4294967296), (11, 0, 4294967295), (11, 2147483648, 2147485248), (2, 93, 0), (2, 104, 0), (11, 2147483648, 2147483678), (2, 89, 0), (2, 92, 0), (2, 119, 0), (2, 90, 0), (2, 94, 0), (2, 103, 0), (0, 0, 0), (11, 0, 4294967295), (11, 0, 4294967295), (11, 2147483648, 2147485249), (11, 2147483648, 2147483653), (11, 2147483648, 2147483668), (2, 85, 0), (11, 2147483648, 2147493647), (5, 0, 0), (2, 95, 0), (2, 96, 0), (2, 97, 0), (2, 98, 0), (2, 99, 0), (2, 101, 0), (2, 102, 0), (2, 105, 0), (2, 106, 0), (2, 107, 0), (2, 108, 0), (2, 109, 0), (2, 110, 0), (2, 111, 0), (11, 2147483648, 2147484768), (11, 2147482048, 2147483655), (11, 2147483648, 2147483738), (11, 2147483648, 2147483678), (11, 0, 4294967295), (11, 0, 4294967295), (11, 0, 4294967295), (11, 0, 4294967295), (11, 0, 4294967295), (2, 113, 0), (2, 116, 0), (2, 117, 0), (2, 121, 0), (11, 0, 4294967295), (11, 0, 4294967295), (2, 124, 0), (2, 125, 0), (11, 0, 4294967295), (2, 126, 0), (2, 127, 0), (2, 128, 0), (2, 129, 0), (2, 130, 0)])
def dn1101 : e2_Q1 := (dc199, dc3)
def dn1102 : e2_Q2 := (dn197, dn1101)
def dn1103 : e2_Q3 := (dn1102, dn447)
def dn1104 : e2_Q4 := (dn196, dn1103)
def dn1105 : e2_Q5 := (dn1104, dn219)
def dn1106 : e2_Q6 := (dn1105, dn251)
def dn1107 : e2_Q7 := (dn504, dn1106)
def dn1108 : e2_Q8 := (dn477, dn1107)
noncomputable def h_d115_8 : ev_H := (dn1108 : e2_Q8)
def dc200 : ev_C := (10, [(0, 1, 0), (2, 88, 0), (2, 115, 0), (2, 114, 0), (2, 86, 0), (2, 112, 0), (11, 2147483648, 2147483688), (2, 118, 0), (2, 120, 0), (2, 131, 0), (2, 91, 0), (11, 2147483648, 2147483657), (2, 123, 0), (11, 2147483648, 2147483649), (11, 2147483648, 2147485248), (2, 87, 0), (2, 84, 0), (2, 122, 0), (2, 100, 0), (2, 132, 0), (11, 2147483648, 2147483668), (11, 2147483648, 2147485248), (1, 0, 4294967296), (11, 0, 4294967295), (11, 2147483648, 2147485248), (2, 93, 0), (2, 104, 0), (11, 2147483648, 2147483678), (2, 89, 0), (2, 92, 0), (2, 119, 0), (2, 90, 0), (2, 94, 0), (2, 103, 0), (0, 0, 0), (11, 0, 4294967295), (11, 0, 4294967295), (11, 2147483648, 2147485249), (11, 2147483648, 2147483653), (11, 2147483648, 2147483668), (2, 85, 0), (11, 2147483648, 2147493647), (5, 0, 0), (2, 95, 0), (2, 96, 0), (2, 97, 0), (2, 98, 0), (2, 99, 0), (2, 101, 0), (2, 102, 0), (2, 105, 0), (2, 106, 0), (2, 107, 0), (2, 108, 0), (2, 109, 0), (2, 110, 0), (2, 111, 0), (11, 2147483648, 2147484768), (11, 2147482048, 2147483655), (11, 2147483648, 2147483738), (11, 2147483648, 2147483678), (11, 0, 4294967295), (11, 0, 4294967295), (11, 0, 4294967295), (11, 0, 4294967295), (11, 0, 4294967295), (2, 113, 0), (2, 116, 0), (2, 117, 0), (2, 121, 0), (11, 0, 4294967295), (11, 0, 4294967295), (2, 124, 0), (2, 125, 0), (11, 0, 4294967295), (2, 126, 0), (2, 127, 0), (2, 128, 0), (2, 129, 0), (2, 130, 0)])
def dn1109 : e2_Q1 := (dc200, dc3)
def dn1110 : e2_Q2 := (dn197, dn1109)
def dn1111 : e2_Q3 := (dn1110, dn447)
def dn1112 : e2_Q4 := (dn196, dn1111)
def dn1113 : e2_Q5 := (dn1112, dn219)
def dn1114 : e2_Q6 := (dn1113, dn251)
def dn1115 : e2_Q7 := (dn504, dn1114)
def dn1116 : e2_Q8 := (dn477, dn1115)
noncomputable def h_d115_9 : ev_H := (dn1116 : e2_Q8)
def dc201 : ev_C := (10, [(0, 1, 0), (2, 88, 0), (2, 115, 0), (2, 114, 0), (2, 86, 0), (2, 112, 0), (11, 2147483648, 2147483688), (2, 118, 0), (2, 120, 0), (2, 131, 0), (2, 91, 0), (11, 2147483648, 2147483658), (2, 123, 0), (11, 2147483648, 2147483649), (11, 2147483648, 2147485248), (2, 87, 0), (2, 84, 0), (2, 122, 0), (2, 100, 0), (2, 132, 0), (11, 2147483648, 2147483668), (11, 2147483648, 2147485248), (1, 0, 4294967296), (11, 0, 4294967295), (11, 2147483648, 2147485248), (2, 93, 0), (2, 104, 0), (11, 2147483648, 2147483678), (2, 89, 0), (2, 92, 0), (2, 119, 0), (2, 90, 0), (2, 94, 0), (2, 103, 0), (0, 0, 0), (11, 0, 4294967295), (11, 0, 4294967295), (11, 2147483648, 2147485249), (11, 2147483648, 2147483653), (11, 2147483648, 2147483668), (2, 85, 0), (11, 2147483648, 2147493647), (5, 0, 0), (2, 95, 0), (2, 96, 0), (2, 97, 0), (2, 98, 0), (2, 99, 0), (2, 101, 0), (2, 102, 0), (2, 105, 0), (2, 106, 0), (2, 107, 0), (2, 108, 0), (2, 109, 0), (2, 110, 0), (2, 111, 0), (11, 2147483648, 2147484768), (11, 2147482048, 2147483655), (11, 2147483648, 2147483738), (11, 2147483648, 2147483678), (11, 0, 4294967295), (11, 0, 4294967295), (11, 0, 4294967295), (11, 0, 4294967295), (11, 0, 4294967295), (2, 113, 0), (2, 116, 0), (2, 117, 0), (2, 121, 0), (11, 0, 4294967295), (11, 0, 4294967295), (2, 124, 0), (2, 125, 0), (11, 0, 4294967295), (2, 126, 0), (2, 127, 0), (2, 128, 0), (2, 129, 0), (2, 130, 0)])
def dn1117 : e2_Q1 := (dc201, dc3)
def dn1118 : e2_Q2 := (dn197, dn1117)
def dn1119 : e2_Q3 := (dn1118, dn447)
def dn1120 : e2_Q4 := (dn196, dn1119)
def dn1121 : e2_Q5 := (dn1120, dn219)
def dn1122 : e2_Q6 := (dn1121, dn251)
def dn1123 : e2_Q7 := (dn504, dn1122)
def dn1124 : e2_Q8 := (dn477, dn1123)
noncomputable def h_d115_10 : ev_H := (dn1124 : e2_Q8)
def dc202 : ev_C := (10, [(0, 1, 0), (2, 88, 0), (2, 115, 0), (2, 114, 0), (2, 86, 0), (2, 112, 0), (11, 2147483648, 2147483688), (2, 118, 0), (2, 120, 0), (2, 131, 0), (2, 91, 0), (11, 2147483648, 2147483659), (2, 123, 0), (11, 2147483648, 2147483649), (11, 2147483648, 2147485248), (2, 87, 0), (2, 84, 0), (2, 122, 0), (2, 100, 0), (2, 132, 0), (11, 2147483648, 2147483668), (11, 2147483648, 2147485248), (1, 0, 4294967296), (11, 0, 4294967295), (11, 2147483648, 2147485248), (2, 93, 0), (2, 104, 0), (11, 2147483648, 2147483678), (2, 89, 0), (2, 92, 0), (2, 119, 0), (2, 90, 0), (2, 94, 0), (2, 103, 0), (0, 0, 0), (11, 0, 4294967295), (11, 0, 4294967295), (11, 2147483648, 2147485249), (11, 2147483648, 2147483653), (11, 2147483648, 2147483668), (2, 85, 0), (11, 2147483648, 2147493647), (5, 0, 0), (2, 95, 0), (2, 96, 0), (2, 97, 0), (2, 98, 0), (2, 99, 0), (2, 101, 0), (2, 102, 0), (2, 105, 0), (2, 106, 0), (2, 107, 0), (2, 108, 0), (2, 109, 0), (2, 110, 0), (2, 111, 0), (11, 2147483648, 2147484768), (11, 2147482048, 2147483655), (11, 2147483648, 2147483738), (11, 2147483648, 2147483678), (11, 0, 4294967295), (11, 0, 4294967295), (11, 0, 4294967295), (11, 0, 4294967295), (11, 0, 4294967295), (2, 113, 0), (2, 116, 0), (2, 117, 0), (2, 121, 0), (11, 0, 4294967295), (11, 0, 4294967295), (2, 124, 0), (2, 125, 0), (11, 0, 4294967295), (2, 126, 0), (2, 127, 0), (2, 128, 0), (2, 129, 0), (2, 130, 0)])
def dn1125 : e2_Q1 := (dc202, dc3)
def dn1126 : e2_Q2 := (dn197, dn1125)
def dn1127 : e2_Q3 := (dn1126, dn447)
def dn1128 : e2_Q4 := (dn196, dn1127)
def dn1129 : e2_Q5 := (dn1128, dn219)
def dn1130 : e2_Q6 := (dn1129, dn251)
def dn1131 : e2_Q7 := (dn504, dn1130)
def dn1132 : e2_Q8 := (dn477, dn1131)
noncomputable def h_d115_11 : ev_H := (dn1132 : e2_Q8)
def dc203 : ev_C := (10, [(0, 1, 0), (2, 88, 0), (2, 115, 0), (2, 114, 0), (2, 86, 0), (2, 112, 0), (11, 2147483648, 2147483688), (2, 118, 0), (2, 120, 0), (2, 131, 0), (2, 91, 0), (11, 2147483648, 2147483660), (2, 123, 0), (11, 2147483648, 2147483649), (11, 2147483648, 2147485248), (2, 87, 0), (2, 84, 0), (2, 122, 0), (2, 100, 0), (2, 132, 0), (11, 2147483648, 2147483668), (11, 2147483648, 2147485248), (1, 0, 4294967296), (11, 0, 4294967295), (11, 2147483648, 2147485248), (2, 93, 0), (2, 104, 0), (11, 2147483648, 2147483678), (2, 89, 0), (2, 92, 0), (2, 119, 0), (2, 90, 0), (2, 94, 0), (2, 103, 0), (0, 0, 0), (11, 0, 4294967295), (11, 0, 4294967295), (11, 2147483648, 2147485249), (11, 2147483648, 2147483653), (11, 2147483648, 2147483668), (2, 85, 0), (11, 2147483648, 2147493647), (5, 0, 0), (2, 95, 0), (2, 96, 0), (2, 97, 0), (2, 98, 0), (2, 99, 0), (2, 101, 0), (2, 102, 0), (2, 105, 0), (2, 106, 0), (2, 107, 0), (2, 108, 0), (2, 109, 0), (2, 110, 0), (2, 111, 0), (11, 2147483648, 2147484768), (11, 2147482048, 2147483655), (11, 2147483648, 2147483738), (11, 2147483648, 2147483678), (11, 0, 4294967295), (11, 0, 4294967295), (11, 0, 4294967295), (11, 0, 4294967295), (11, 0, 4294967295), (2, 113, 0), (2, 116, 0), (2, 117, 0), (2, 121, 0), (11, 0, 4294967295), (11, 0, 4294967295), (2, 124, 0), (2, 125, 0), (11, 0, 4294967295), (2, 126, 0), (2, 127, 0), (2, 128, 0), (2, 129, 0), (2, 130, 0)])
def dn1133 : e2_Q1 := (dc203, dc3)
def dn1134 : e2_Q2 := (dn197, dn1133)
def dn1135 : e2_Q3 := (dn1134, dn447)
def dn1136 : e2_Q4 := (dn196, dn1135)
def dn1137 : e2_Q5 := (dn1136, dn219)
def dn1138 : e2_Q6 := (dn1137, dn251)
def dn1139 : e2_Q7 := (dn504, dn1138)
def dn1140 : e2_Q8 := (dn477, dn1139)
noncomputable def h_d115_12 : ev_H := (dn1140 : e2_Q8)
def dc204 : ev_C := (10, [(0, 1, 0), (2, 88, 0), (2, 115, 0), (2, 114, 0), (2, 86, 0), (2, 112, 0), (11, 2147483648, 2147483688), (2, 118, 0), (2, 120, 0), (2, 131, 0), (2, 91, 0), (11, 2147483648, 2147483661), (2, 123, 0), (11, 2147483648, 2147483649), (11, 2147483648, 2147485248), (2, 87, 0), (2, 84, 0), (2, 122, 0), (2, 100, 0), (2, 132, 0), (11, 2147483648, 2147483668), (11, 2147483648, 2147485248), (1, 0, 4294967296), (11, 0, 4294967295), (11, 2147483648, 2147485248), (2, 93, 0), (2, 104, 0), (11, 2147483648, 2147483678), (2, 89, 0), (2, 92, 0), (2, 119, 0), (2, 90, 0), (2, 94, 0), (2, 103, 0), (0, 0, 0), (11, 0, 4294967295), (11, 0, 4294967295), (11, 2147483648, 2147485249), (11, 2147483648, 2147483653), (11, 2147483648, 2147483668), (2, 85, 0), (11, 2147483648, 2147493647), (5, 0, 0), (2, 95, 0), (2, 96, 0), (2, 97, 0), (2, 98, 0), (2, 99, 0), (2, 101, 0), (2, 102, 0), (2, 105, 0), (2, 106, 0), (2, 107, 0), (2, 108, 0), (2, 109, 0), (2, 110, 0), (2, 111, 0), (11, 2147483648, 2147484768), (11, 2147482048, 2147483655), (11, 2147483648, 2147483738), (11, 2147483648, 2147483678), (11, 0, 4294967295), (11, 0, 4294967295), (11, 0, 4294967295), (11, 0, 4294967295), (11, 0, 4294967295), (2, 113, 0), (2, 116, 0), (2, 117, 0), (2, 121, 0), (11, 0, 4294967295), (11, 0, 4294967295), (2, 124, 0), (2, 125, 0), (11, 0, 4294967295), (2, 126, 0), (2, 127, 0), (2, 128, 0), (2, 129, 0), (2, 130, 0)])
def dn1141 : e2_Q1 := (dc204, dc3)
def dn1142 : e2_Q2 := (dn197, dn1141)
def dn1143 : e2_Q3 := (dn1142, dn447)
def dn1144 : e2_Q4 := (dn196, dn1143)
def dn1145 : e2_Q5 := (dn1144, dn219)
def dn1146 : e2_Q6 := (dn1145, dn251)
def dn1147 : e2_Q7 := (dn504, dn1146)
def dn1148 : e2_Q8 := (dn477, dn1147)
noncomputable def h_d115_13 : ev_H := (dn1148 : e2_Q8)
def dc205 : ev_C := (10, [(0, 1, 0), (2, 88, 0), (2, 115, 0), (2, 114, 0), (2, 86, 0), (2, 112, 0), (11, 2147483648, 2147483688), (2, 118, 0), (2, 120, 0), (2, 131, 0), (2, 91, 0), (11, 2147483648, 2147483662), (2, 123, 0), (11, 2147483648, 2147483649), (11, 2147483648, 2147485248), (2, 87, 0), (2, 84, 0), (2, 122, 0), (2, 100, 0), (2, 132, 0), (11, 2147483648, 2147483668), (11, 2147483648, 2147485248), (1, 0, 4294967296), (11, 0, 4294967295), (11, 2147483648, 2147485248), (2, 93, 0), (2, 104, 0), (11, 2147483648, 2147483678), (2, 89, 0), (2, 92, 0), (2, 119, 0), (2, 90, 0), (2, 94, 0), (2, 103, 0), (0, 0, 0), (11, 0, 4294967295), (11, 0, 4294967295), (11, 2147483648, 2147485249), (11, 2147483648, 2147483653), (11, 2147483648, 2147483668), (2, 85, 0), (11, 2147483648, 2147493647), (5, 0, 0), (2, 95, 0), (2, 96, 0), (2, 97, 0), (2, 98, 0), (2, 99, 0), (2, 101, 0), (2, 102, 0), (2, 105, 0), (2, 106, 0), (2, 107, 0), (2, 108, 0), (2, 109, 0), (2, 110, 0), (2, 111, 0), (11, 2147483648, 2147484768), (11, 2147482048, 2147483655), (11, 2147483648, 2147483738), (11, 2147483648, 2147483678), (11, 0, 4294967295), (11, 0, 4294967295), (11, 0, 4294967295), (11, 0, 4294967295), (11, 0, 4294967295), (2, 113, 0), (2, 116, 0), (2, 117, 0), (2, 121, 0), (11, 0, 4294967295), (11, 0, 4294967295), (2, 124, 0), (2, 125, 0), (11, 0, 4294967295), (2, 126, 0), (2, 127, 0), (2, 128, 0), (2, 129, 0), (2, 130, 0)])
def dn1149 : e2_Q1 := (dc205, dc3)
def dn1150 : e2_Q2 := (dn197, dn1149)
def dn1151 : e2_Q3 := (dn1150, dn447)
def dn1152 : e2_Q4 := (dn196, dn1151)
def dn1153 : e2_Q5 := (dn1152, dn219)
def dn1154 : e2_Q6 := (dn1153, dn251)
def dn1155 : e2_Q7 := (dn504, dn1154)
def dn1156 : e2_Q8 := (dn477, dn1155)
noncomputable def h_d115_14 : ev_H := (dn1156 : e2_Q8)
def dc206 : ev_C := (10, [(0, 1, 0), (2, 88, 0), (2, 115, 0), (2, 114, 0), (2, 86, 0), (2, 112, 0), (11, 2147483648, 2147483688), (2, 118, 0), (2, 120, 0), (2, 131, 0), (2, 91, 0), (11, 2147483648, 2147483663), (2, 123, 0), (11, 2147483648, 2147483649), (11, 2147483648, 2147485248), (2, 87, 0), (2, 84, 0), (2, 122, 0), (2, 100, 0), (2, 132, 0), (11, 2147483648, 2147483668), (11, 2147483648, 2147485248), (1, 0, 4294967296), (11, 0, 4294967295), (11, 2147483648, 2147485248), (2, 93, 0), (2, 104, 0), (11, 2147483648, 2147483678), (2, 89, 0), (2, 92, 0), (2, 119, 0), (2, 90, 0), (2, 94, 0), (2, 103, 0), (0, 0, 0), (11, 0, 4294967295), (11, 0, 4294967295), (11, 2147483648, 2147485249), (11, 2147483648, 2147483653), (11, 2147483648, 2147483668), (2, 85, 0), (11, 2147483648, 2147493647), (5, 0, 0), (2, 95, 0), (2, 96, 0), (2, 97, 0), (2, 98, 0), (2, 99, 0), (2, 101, 0), (2, 102, 0), (2, 105, 0), (2, 106, 0), (2, 107, 0), (2, 108, 0), (2, 109, 0), (2, 110, 0), (2, 111, 0), (11, 2147483648, 2147484768), (11, 2147482048, 2147483655), (11, 2147483648, 2147483738), (11, 2147483648, 2147483678), (11, 0, 4294967295), (11, 0, 4294967295), (11, 0, 4294967295), (11, 0, 4294967295), (11, 0, 4294967295), (2, 113, 0), (2, 116, 0), (2, 117, 0), (2, 121, 0), (11, 0, 4294967295), (11, 0, 4294967295), (2, 124, 0), (2, 125, 0), (11, 0, 4294967295), (2, 126, 0), (2, 127, 0), (2, 128, 0), (2, 129, 0), (2, 130, 0)])
def dn1157 : e2_Q1 := (dc206, dc3)
def dn1158 : e2_Q2 := (dn197, dn1157)
def dn1159 : e2_Q3 := (dn1158, dn447)
def dn1160 : e2_Q4 := (dn196, dn1159)
def dn1161 : e2_Q5 := (dn1160, dn219)
def dn1162 : e2_Q6 := (dn1161, dn251)
def dn1163 : e2_Q7 := (dn504, dn1162)
def dn1164 : e2_Q8 := (dn477, dn1163)
noncomputable def h_d115_15 : ev_H := (dn1164 : e2_Q8)
def dc207 : ev_C := (10, [(0, 1, 0), (2, 88, 0), (2, 115, 0), (2, 114, 0), (2, 86, 0), (2, 112, 0), (11, 2147483648, 2147483688), (2, 118, 0), (2, 120, 0), (2, 131, 0), (2, 91, 0), (11, 2147483648, 2147483664), (2, 123, 0), (11, 2147483648, 2147483649), (11, 2147483648, 2147485248), (2, 87, 0), (2, 84, 0), (2, 122, 0), (2, 100, 0), (2, 132, 0), (11, 2147483648, 2147483668), (11, 2147483648, 2147485248), (1, 0, 4294967296), (11, 0, 4294967295), (11, 2147483648, 2147485248), (2, 93, 0), (2, 104, 0), (11, 2147483648, 2147483678), (2, 89, 0), (2, 92, 0), (2, 119, 0), (2, 90, 0), (2, 94, 0), (2, 103, 0), (0, 0, 0), (11, 0, 4294967295), (11, 0, 4294967295), (11, 2147483648, 2147485249), (11, 2147483648, 2147483653), (11, 2147483648, 2147483668), (2, 85, 0), (11, 2147483648, 2147493647), (5, 0, 0), (2, 95, 0), (2, 96, 0), (2, 97, 0), (2, 98, 0), (2, 99, 0), (2, 101, 0), (2, 102, 0), (2, 105, 0), (2, 106, 0), (2, 107, 0), (2, 108, 0), (2, 109, 0), (2, 110, 0), (2, 111, 0), (11, 2147483648, 2147484768), (11, 2147482048, 2147483655), (11, 2147483648, 2147483738), (11, 2147483648, 2147483678), (11, 0, 4294967295), (11, 0, 4294967295), (11, 0, 4294967295), (11, 0, 4294967295), (11, 0, 4294967295), (2, 113, 0), (2, 116, 0), (2, 117, 0), (2, 121, 0), (11, 0, 4294967295), (11, 0, 4294967295), (2, 124, 0), (2, 125, 0), (11, 0, 4294967295), (2, 126, 0), (2, 127, 0), (2, 128, 0), (2, 129, 0), (2, 130, 0)])
def dn1165 : e2_Q1 := (dc207, dc3)
def dn1166 : e2_Q2 := (dn197, dn1165)
def dn1167 : e2_Q3 := (dn1166, dn447)
def dn1168 : e2_Q4 := (dn196, dn1167)
def dn1169 : e2_Q5 := (dn1168, dn219)
def dn1170 : e2_Q6 := (dn1169, dn251)
def dn1171 : e2_Q7 := (dn504, dn1170)
def dn1172 : e2_Q8 := (dn477, dn1171)
noncomputable def h_d115_16 : ev_H := (dn1172 : e2_Q8)
def dc208 : ev_C := (10, [(0, 1, 0), (2, 88, 0), (2, 115, 0), (2, 114, 0), (2, 86, 0), (2, 112, 0), (11, 2147483648, 2147483688), (2, 118, 0), (2, 120, 0), (2, 131, 0), (2, 91, 0), (11, 2147483648, 2147483665), (2, 123, 0), (11, 2147483648, 2147483649), (11, 2147483648, 2147485248), (2, 87, 0), (2, 84, 0), (2, 122, 0), (2, 100, 0), (2, 132, 0), (11, 2147483648, 2147483668), (11, 2147483648, 2147485248), (1, 0, 4294967296), (11, 0, 4294967295), (11, 2147483648, 2147485248), (2, 93, 0), (2, 104, 0), (11, 2147483648, 2147483678), (2, 89, 0), (2, 92, 0), (2, 119, 0), (2, 90, 0), (2, 94, 0), (2, 103, 0), (0, 0, 0), (11, 0, 4294967295), (11, 0, 4294967295), (11, 2147483648, 2147485249), (11, 2147483648, 2147483653), (11, 2147483648, 2147483668), (2, 85, 0), (11, 2147483648, 2147493647), (5, 0, 0), (2, 95, 0), (2, 96, 0), (2, 97, 0), (2, 98, 0), (2, 99, 0), (2, 101, 0), (2, 102, 0), (2, 105, 0), (2, 106, 0), (2, 107, 0), (2, 108, 0), (2, 109, 0), (2, 110, 0), (2, 111, 0), (11, 2147483648, 2147484768), (11, 2147482048, 2147483655), (11, 2147483648, 2147483738), (11, 2147483648, 2147483678), (11, 0, 4294967295), (11, 0, 4294967295), (11, 0, 4294967295), (11, 0, 4294967295), (11, 0, 4294967295), (2, 113, 0), (2, 116, 0), (2, 117, 0), (2, 121, 0), (11, 0, 4294967295), (11, 0, 4294967295), (2, 124, 0), (2, 125, 0), (11, 0, 4294967295), (2, 126, 0), (2, 127, 0), (2, 128, 0), (2, 129, 0), (2, 130, 0)])
def dn1173 : e2_Q1 := (dc208, dc3)
def dn1174 : e2_Q2 := (dn197, dn1173)
def dn1175 : e2_Q3 := (dn1174, dn447)
def dn1176 : e2_Q4 := (dn196, dn1175)
def dn1177 : e2_Q5 := (dn1176, dn219)
def dn1178 : e2_Q6 := (dn1177, dn251)
def dn1179 : e2_Q7 := (dn504, dn1178)
def dn1180 : e2_Q8 := (dn477, dn1179)
noncomputable def h_d115_17 : ev_H := (dn1180 : e2_Q8)
def dc209 : ev_C := (10, [(0, 1, 0), (2, 88, 0), (2, 115, 0), (2, 114, 0), (2, 86, 0), (2, 112, 0), (11, 2147483648, 2147483688), (2, 118, 0), (2, 120, 0), (2, 131, 0), (2, 91, 0), (11, 2147483648, 2147483666), (2, 123, 0), (11, 2147483648, 2147483649), (11, 2147483648, 2147485248), (2, 87, 0), (2, 84, 0), (2, 122, 0), (2, 100, 0), (2, 132, 0), (11, 2147483648, 2147483668), (11, 2147483648, 2147485248), (1, 0, 4294967296), (11, 0, 4294967295), (11, 2147483648, 2147485248), (2, 93, 0), (2, 104, 0), (11, 2147483648, 2147483678), (2, 89, 0), (2, 92, 0), (2, 119, 0), (2, 90, 0), (2, 94, 0), (2, 103, 0), (0, 0, 0), (11, 0, 4294967295), (11, 0, 4294967295), (11, 2147483648, 2147485249), (11, 2147483648, 2147483653), (11, 2147483648, 2147483668), (2, 85, 0), (11, 2147483648, 2147493647), (5, 0, 0), (2, 95, 0), (2, 96, 0), (2, 97, 0), (2, 98, 0), (2, 99, 0), (2, 101, 0), (2, 102, 0), (2, 105, 0), (2, 106, 0), (2, 107, 0), (2, 108, 0), (2, 109, 0), (2, 110, 0), (2, 111, 0), (11, 2147483648, 2147484768), (11, 2147482048, 2147483655), (11, 2147483648, 2147483738), (11, 2147483648, 2147483678), (11, 0, 4294967295), (11, 0, 4294967295), (11, 0, 4294967295), (11, 0, 4294967295), (11, 0, 4294967295), (2, 113, 0), (2, 116, 0), (2, 117, 0), (2, 121, 0), (11, 0, 4294967295), (11, 0, 4294967295), (2, 124, 0), (2, 125, 0), (11, 0, 4294967295), (2, 126, 0), (2, 127, 0), (2, 128, 0), (2, 129, 0), (2, 130, 0)])
def dn1181 : e2_Q1 := (dc209, dc3)
def dn1182 : e2_Q2 := (dn197, dn1181)
def dn1183 : e2_Q3 := (dn1182, dn447)
def dn1184 : e2_Q4 := (dn196, dn1183)
def dn1185 : e2_Q5 := (dn1184, dn219)
def dn1186 : e2_Q6 := (dn1185, dn251)
def dn1187 : e2_Q7 := (dn504, dn1186)
def dn1188 : e2_Q8 := (dn477, dn1187)
noncomputable def h_d115_18 : ev_H := (dn1188 : e2_Q8)
def dc210 : ev_C := (10, [(0, 1, 0), (2, 88, 0), (2, 115, 0), (2, 114, 0), (2, 86, 0), (2, 112, 0), (11, 2147483648, 2147483688), (2, 118, 0), (2, 120, 0), (2, 131, 0), (2, 91, 0), (11, 2147483648, 2147483667), (2, 123, 0), (11, 2147483648, 2147483649), (11, 2147483648, 2147485248), (2, 87, 0), (2, 84, 0), (2, 122, 0), (2, 100, 0), (2, 132, 0), (11, 2147483648, 2147483668), (11, 2147483648, 2147485248), (1, 0, 4294967296), (11, 0, 4294967295), (11, 2147483648, 2147485248), (2, 93, 0), (2, 104, 0), (11, 2147483648, 2147483678), (2, 89, 0), (2, 92, 0), (2, 119, 0), (2, 90, 0), (2, 94, 0), (2, 103, 0), (0, 0, 0), (11, 0, 4294967295), (11, 0, 4294967295), (11, 2147483648, 2147485249), (11, 2147483648, 2147483653), (11, 2147483648, 2147483668), (2, 85, 0), (11, 2147483648, 2147493647), (5, 0, 0), (2, 95, 0), (2, 96, 0), (2, 97, 0), (2, 98, 0), (2, 99, 0), (2, 101, 0), (2, 102, 0), (2, 105, 0), (2, 106, 0), (2, 107, 0), (2, 108, 0), (2, 109, 0), (2, 110, 0), (2, 111, 0), (11, 2147483648, 2147484768), (11, 2147482048, 2147483655), (11, 2147483648, 2147483738), (11, 2147483648, 2147483678), (11, 0, 4294967295), (11, 0, 4294967295), (11, 0, 4294967295), (11, 0, 4294967295), (11, 0, 4294967295), (2, 113, 0), (2, 116, 0), (2, 117, 0), (2, 121, 0), (11, 0, 4294967295), (11, 0, 4294967295), (2, 124, 0), (2, 125, 0), (11, 0, 4294967295), (2, 126, 0), (2, 127, 0), (2, 128, 0), (2, 129, 0), (2, 130, 0)])
def dn1189 : e2_Q1 := (dc210, dc3)
def dn1190 : e2_Q2 := (dn197, dn1189)
def dn1191 : e2_Q3 := (dn1190, dn447)
def dn1192 : e2_Q4 := (dn196, dn1191)
def dn1193 : e2_Q5 := (dn1192, dn219)
def dn1194 : e2_Q6 := (dn1193, dn251)
def dn1195 : e2_Q7 := (dn504, dn1194)
def dn1196 : e2_Q8 := (dn477, dn1195)
noncomputable def h_d115_19 : ev_H := (dn1196 : e2_Q8)
noncomputable def h_d115_20 : ev_H := (dn1042 : e2_Q8)
def dc211 : ev_C := (10, [(0, 1, 0), (2, 88, 0), (2, 115, 0), (2, 114, 0), (2, 86, 0), (2, 112, 0), (11, 2147483648, 2147483688), (2, 118, 0), (2, 120, 0), (2, 131, 0), (2, 91, 0), (11, 2147483649, 2147483668), (2, 123, 0), (11, 2147483648, 2147483649), (11, 2147483648, 2147485248), (2, 87, 0), (2, 84, 0), (2, 122, 0), (2, 100, 0), (2, 132, 0), (11, 2147483648, 2147483668), (11, 2147483648, 2147485248), (1, 0, 4294967296), (11, 0, 4294967295), (11, 2147483648, 2147485248), (2, 93, 0), (2, 104, 0), (11, 2147483648, 2147483678), (2, 89, 0), (2, 92, 0), (2, 119, 0), (2, 90, 0), (2, 94, 0), (2, 103, 0), (0, 0, 0), (11, 0, 4294967295), (11, 0, 4294967295), (11, 2147483648, 2147485249), (11, 2147483648, 2147483653), (11, 2147483648, 2147483668), (2, 85, 0), (11, 2147483648, 2147493647), (5, 0, 0), (2, 95, 0), (2, 96, 0), (2, 97, 0), (2, 98, 0), (2, 99, 0), (2, 101, 0), (2, 102, 0), (2, 105, 0), (2, 106, 0), (2, 107, 0), (2, 108, 0), (2, 109, 0), (2, 110, 0), (2, 111, 0), (11, 2147483648, 2147484768), (11, 2147482048, 2147483655), (11, 2147483648, 2147483738), (11, 2147483648, 2147483678), (11, 0, 4294967295), (11, 0, 4294967295), (11, 0, 4294967295), (11, 0, 4294967295), (11, 0, 4294967295), (2, 113, 0), (2, 116, 0), (2, 117, 0), (2, 121, 0), (11, 0, 4294967295), (11, 0, 4294967295), (2, 124, 0), (2, 125, 0), (11, 0, 4294967295), (2, 126, 0), (2, 127, 0), (2, 128, 0), (2, 129, 0), (2, 130, 0)])
def dn1197 : e2_Q1 := (dc211, dc3)
def dn1198 : e2_Q2 := (dn197, dn1197)
def dn1199 : e2_Q3 := (dn1198, dn447)
def dn1200 : e2_Q4 := (dn196, dn1199)
def dn1201 : e2_Q5 := (dn1200, dn219)
def dn1202 : e2_Q6 := (dn1201, dn251)
def dn1203 : e2_Q7 := (dn504, dn1202)
def dn1204 : e2_Q8 := (dn477, dn1203)
noncomputable def h_d115_21 : ev_H := (dn1204 : e2_Q8)
noncomputable def h_d115_22 : ev_H := (dn1204 : e2_Q8)
noncomputable def h_d115_23 : ev_H := (dn1204 : e2_Q8)
noncomputable def h_d115_24 : ev_H := (dn1204 : e2_Q8)
noncomputable def h_d115_25 : ev_H := (dn1204 : e2_Q8)
noncomputable def cu_d115_120 : List e2_Cu := [([(2, 83, 0), (11, 0, 4294967295), (0, 0, 0), (0, 8, 0), (9, 0, 0)], [(2147483648, 2147583648, 0, 0), (2147483649, 2147483649, 1, 0), (2147483648, 2147483688, 2, 0), (2147483648, 2147483688, 3, 0)], h_d115_0),
  ([(2, 83, 0), (11, 0, 4294967295), (0, 1, 0), (11, 2147483648, 2147483656), (11, 2147483647, 2147483648)], [(2147483648, 2147583648, 0, 0), (2147483649, 2147483649, 1, 0), (2147483648, 2147483688, 2, 0), (2147483648, 2147483688, 3, 0)], h_d115_1),
  ([(2, 83, 0), (11, 0, 4294967295), (0, 2, 0), (11, 2147483648, 2147483656), (11, 2147483647, 2147483648)], [(2147483648, 2147583648, 0, 0), (2147483649, 2147483649, 1, 0), (2147483648, 2147483688, 2, 0), (2147483648, 2147483688, 3, 0)], h_d115_2),
  ([(2, 83, 0), (11, 0, 4294967295), (0, 3, 0), (11, 2147483648, 2147483656), (11, 2147483647, 2147483648)], [(2147483648, 2147583648, 0, 0), (2147483649, 2147483649, 1, 0), (2147483648, 2147483688, 2, 0), (2147483648, 2147483688, 3, 0)], h_d115_3),
  ([(2, 83, 0), (11, 0, 4294967295), (0, 4, 0), (11, 2147483648, 2147483656), (11, 2147483647, 2147483648)], [(2147483648, 2147583648, 0, 0), (2147483649, 2147483649, 1, 0), (2147483648, 2147483688, 2, 0), (2147483648, 2147483688, 3, 0)], h_d115_4),
  ([(2, 83, 0), (11, 0, 4294967295), (0, 5, 0), (11, 2147483648, 2147483656), (11, 2147483647, 2147483648)], [(2147483648, 2147583648, 0, 0), (2147483649, 2147483649, 1, 0), (2147483648, 2147483688, 2, 0), (2147483648, 2147483688, 3, 0)], h_d115_5),
  ([(2, 83, 0), (11, 0, 4294967295), (0, 6, 0), (11, 2147483648, 2147483656), (11, 2147483647, 2147483648)], [(2147483648, 2147583648, 0, 0), (2147483649, 2147483649, 1, 0), (2147483648, 2147483688, 2, 0), (2147483648, 2147483688, 3, 0)], h_d115_6),
  ([(2, 83, 0), (11, 0, 4294967295), (0, 7, 0), (11, 2147483648, 2147483656), (11, 2147483647, 2147483648)], [(2147483648, 2147583648, 0, 0), (2147483649, 2147483649, 1, 0), (2147483648, 2147483688, 2, 0), (2147483648, 2147483688, 3, 0)], h_d115_7),
  ([(2, 83, 0), (11, 0, 4294967295), (0, 8, 0), (11, 2147483648, 2147483656), (11, 2147483647, 2147483648)], [(2147483648, 2147583648, 0, 0), (2147483649, 2147483649, 1, 0), (2147483648, 2147483688, 2, 0), (2147483648, 2147483688, 3, 0)], h_d115_8),
  ([(2, 83, 0), (11, 0, 4294967295), (0, 9, 0), (11, 2147483648, 2147483656), (11, 2147483647, 2147483648)], [(2147483648, 2147583648, 0, 0), (2147483649, 2147483649, 1, 0), (2147483648, 2147483688, 2, 0), (2147483648, 2147483688, 3, 0)], h_d115_9),
  ([(2, 83, 0), (11, 0, 4294967295), (0, 10, 0), (11, 2147483648, 2147483656), (11, 2147483647, 2147483648)], [(2147483648, 2147583648, 0, 0), (2147483649, 2147483649, 1, 0), (2147483648, 2147483688, 2, 0), (2147483648, 2147483688, 3, 0)], h_d115_10),
  ([(2, 83, 0), (11, 0, 4294967295), (0, 11, 0), (11, 2147483648, 2147483656), (11, 2147483647, 2147483648)], [(2147483648, 2147583648, 0, 0), (2147483649, 2147483649, 1, 0), (2147483648, 2147483688, 2, 0), (2147483648, 2147483688, 3, 0)], h_d115_11),
  ([(2, 83, 0), (11, 0, 4294967295), (0, 12, 0), (11, 2147483648, 2147483656), (11, 2147483647, 2147483648)], [(2147483648, 2147583648, 0, 0), (2147483649, 2147483649, 1, 0), (2147483648, 2147483688, 2, 0), (2147483648, 2147483688, 3, 0)], h_d115_12),
  ([(2, 83, 0), (11, 0, 4294967295), (0, 13, 0), (11, 2147483648, 2147483656), (11, 2147483647, 2147483648)], [(2147483648, 2147583648, 0, 0), (2147483649, 2147483649, 1, 0), (2147483648, 2147483688, 2, 0), (2147483648, 2147483688, 3, 0)], h_d115_13),
  ([(2, 83, 0), (11, 0, 4294967295), (0, 14, 0), (11, 2147483648, 2147483656), (11, 2147483647, 2147483648)], [(2147483648, 2147583648, 0, 0), (2147483649, 2147483649, 1, 0), (2147483648, 2147483688, 2, 0), (2147483648, 2147483688, 3, 0)], h_d115_14),
  ([(2, 83, 0), (11, 0, 4294967295), (0, 15, 0), (11, 2147483648, 2147483656), (11, 2147483647, 2147483648)], [(2147483648, 2147583648, 0, 0), (2147483649, 2147483649, 1, 0), (2147483648, 2147483688, 2, 0), (2147483648, 2147483688, 3, 0)], h_d115_15),
  ([(2, 83, 0), (11, 0, 4294967295), (0, 16, 0), (11, 2147483648, 2147483656), (11, 2147483647, 2147483648)], [(2147483648, 2147583648, 0, 0), (2147483649, 2147483649, 1, 0), (2147483648, 2147483688, 2, 0), (2147483648, 2147483688, 3, 0)], h_d115_16),
  ([(2, 83, 0), (11, 0, 4294967295), (0, 17, 0), (11, 2147483648, 2147483656), (11, 2147483647, 2147483648)], [(2147483648, 2147583648, 0, 0), (2147483649, 2147483649, 1, 0), (2147483648, 2147483688, 2, 0), (2147483648, 2147483688, 3, 0)], h_d115_17),
  ([(2, 83, 0), (11, 0, 4294967295), (0, 18, 0), (11, 2147483648, 2147483656), (11, 2147483647, 2147483648)], [(2147483648, 2147583648, 0, 0), (2147483649, 2147483649, 1, 0), (2147483648, 2147483688, 2, 0), (2147483648, 2147483688, 3, 0)], h_d115_18),
  ([(2, 83, 0), (11, 0, 4294967295), (0, 19, 0), (11, 2147483648, 2147483656), (11, 2147483647, 2147483648)], [(2147483648, 2147583648, 0, 0), (2147483649, 2147483649, 1, 0), (2147483648, 2147483688, 2, 0), (2147483648, 2147483688, 3, 0)], h_d115_19),
  ([(2, 83, 0), (11, 0, 4294967295), (0, 20, 0), (11, 2147483648, 2147483656), (11, 2147483647, 2147483648)], [(2147483648, 2147583648, 0, 0), (2147483649, 2147483649, 1, 0), (2147483648, 2147483688, 2, 0), (2147483648, 2147483688, 3, 0)], h_d115_20),
  ([(2, 83, 0), (11, 0, 4294967295), (0, 21, 0), (0, 0, 0), (0, 0, 0)], [(2147483648, 2147583648, 0, 0), (2147483649, 2147483649, 1, 0), (2147483648, 2147483688, 2, 0), (2147483648, 2147483688, 3, 0)], h_d115_21),
  ([(2, 83, 0), (11, 0, 4294967295), (0, 22, 0), (0, 0, 0), (0, 0, 0)], [(2147483648, 2147583648, 0, 0), (2147483649, 2147483649, 1, 0), (2147483648, 2147483688, 2, 0), (2147483648, 2147483688, 3, 0)], h_d115_22),
  ([(2, 83, 0), (11, 0, 4294967295), (0, 23, 0), (0, 0, 0), (0, 0, 0)], [(2147483648, 2147583648, 0, 0), (2147483649, 2147483649, 1, 0), (2147483648, 2147483688, 2, 0), (2147483648, 2147483688, 3, 0)], h_d115_23),
  ([(2, 83, 0), (11, 0, 4294967295), (0, 24, 0), (0, 0, 0), (0, 0, 0)], [(2147483648, 2147583648, 0, 0), (2147483649, 2147483649, 1, 0), (2147483648, 2147483688, 2, 0), (2147483648, 2147483688, 3, 0)], h_d115_24),
  ([(2, 83, 0), (11, 0, 4294967295), (0, 25, 0), (0, 0, 0), (0, 0, 0)], [(2147483648, 2147583648, 0, 0), (2147483649, 2147483649, 1, 0), (2147483648, 2147483688, 2, 0), (2147483648, 2147483688, 3, 0)], h_d115_25)]
noncomputable def cl_d115_e : List (Nat × e2_S) := [(2, e2_cutL (al_d115_26.set 2 (11, 2147483648, 2147483657)) 4 (E_d115_26.take 4) h_d115_26)]
set_option maxRecDepth 1000000 in
theorem ck_d115_e : e2_run (e2_orG 231 83 11 4 2147483648 2147483668 as_d113 Eb_d113 f_d113 rs_d113 (e2_orG 231 83 11 4 2147483648 2147483668 as_d112 Eb_d112 f_d112 rs_d112 (e2_orG 231 83 11 4 2147483648 2147483668 as_d111 Eb_d111 f_d111 rs_d111 (e2_orG 231 83 11 4 2147483648 2147483668 as_d110 Eb_d110 f_d110 rs_d110 (e2_orG 231 83 11 4 2147483648 2147483668 as_d109 Eb_d109 f_d109 rs_d109 (e2_orG 231 83 11 4 2147483648 2147483668 as_d108 Eb_d108 f_d108 rs_d108 (e2_orG 231 83 11 4 2147483648 2147483668 as_d107 Eb_d107 f_d107 rs_d107 (e2_orG 231 83 11 4 2147483648 2147483668 as_d106 Eb_d106 f_d106 rs_d106 (e2_orG 231 83 11 4 2147483648 2147483668 as_d105 Eb_d105 f_d105 rs_d105 (e2_orG 231 83 11 4 2147483648 2147483668 as_d104 Eb_d104 f_d104 rs_d104 (e2_orG 231 83 11 4 2147483648 2147483668 as_d103 Eb_d103 f_d103 rs_d103 (e2_orG 231 83 11 4 2147483648 2147483668 as_d102 Eb_d102 f_d102 rs_d102 (e2_orG 231 83 11 4 2147483648 2147483668 as_d101 Eb_d101 f_d101 rs_d101 (e2_orG 231 83 11 4 2147483648 2147483668 as_d100 Eb_d100 f_d100 rs_d100 (e2_orG 231 83 11 4 2147483648 2147483668 as_d99 Eb_d99 f_d99 rs_d99 (e2_orG 231 83 11 4 2147483648 2147483668 as_d98 Eb_d98 f_d98 rs_d98 (e2_orG 231 83 11 4 2147483648 2147483668 as_d97 Eb_d97 f_d97 rs_d97 (e2_orG 231 83 11 4 2147483648 2147483668 as_d96 Eb_d96 f_d96 rs_d96 (e2_orG 231 83 11 4 2147483648 2147483668 as_d95 Eb_d95 f_d95 rs_d95 (e2_orG 231 83 11 4 2147483648 2147483668 as_d94 Eb_d94 f_d94 rs_d94 (e2_cal S_d115 I_d115 4000 1))))))))))))))))))))) (e2_fin rs_d115) e2x_230 (e2_bpL cl_d115_e) (e2_cutA cl_d115_e) 4000 (e2_seek e2x_230 0) (e2_al 5 as_d115) [] E_d115 f_d115 = true := by decide +kernel
noncomputable def cl_d115_26 : List (Nat × e2_S) := [(2, e2_cutL (al_d115_26.set 2 (13, 12, 2147483657)) 4 (E_d115_26.take 4) h_d115_26),
  (49, e2_cutL (al_d115_27.set 2 (11, 2147483647, 2147483667)) 4 (E_d115_27.take 4) h_d115_27)]
set_option maxRecDepth 1000000 in
theorem ck_d115_26 : e2_runM (e2_orG 231 83 11 4 2147483648 2147483668 as_d113 Eb_d113 f_d113 rs_d113 (e2_orG 231 83 11 4 2147483648 2147483668 as_d112 Eb_d112 f_d112 rs_d112 (e2_orG 231 83 11 4 2147483648 2147483668 as_d111 Eb_d111 f_d111 rs_d111 (e2_orG 231 83 11 4 2147483648 2147483668 as_d110 Eb_d110 f_d110 rs_d110 (e2_orG 231 83 11 4 2147483648 2147483668 as_d109 Eb_d109 f_d109 rs_d109 (e2_orG 231 83 11 4 2147483648 2147483668 as_d108 Eb_d108 f_d108 rs_d108 (e2_orG 231 83 11 4 2147483648 2147483668 as_d107 Eb_d107 f_d107 rs_d107 (e2_orG 231 83 11 4 2147483648 2147483668 as_d106 Eb_d106 f_d106 rs_d106 (e2_orG 231 83 11 4 2147483648 2147483668 as_d105 Eb_d105 f_d105 rs_d105 (e2_orG 231 83 11 4 2147483648 2147483668 as_d104 Eb_d104 f_d104 rs_d104 (e2_orG 231 83 11 4 2147483648 2147483668 as_d103 Eb_d103 f_d103 rs_d103 (e2_orG 231 83 11 4 2147483648 2147483668 as_d102 Eb_d102 f_d102 rs_d102 (e2_orG 231 83 11 4 2147483648 2147483668 as_d101 Eb_d101 f_d101 rs_d101 (e2_orG 231 83 11 4 2147483648 2147483668 as_d100 Eb_d100 f_d100 rs_d100 (e2_orG 231 83 11 4 2147483648 2147483668 as_d99 Eb_d99 f_d99 rs_d99 (e2_orG 231 83 11 4 2147483648 2147483668 as_d98 Eb_d98 f_d98 rs_d98 (e2_orG 231 83 11 4 2147483648 2147483668 as_d97 Eb_d97 f_d97 rs_d97 (e2_orG 231 83 11 4 2147483648 2147483668 as_d96 Eb_d96 f_d96 rs_d96 (e2_orG 231 83 11 4 2147483648 2147483668 as_d95 Eb_d95 f_d95 rs_d95 (e2_orG 231 83 11 4 2147483648 2147483668 as_d94 Eb_d94 f_d94 rs_d94 (e2_cal S_d115 I_d115 4000 1))))))))))))))))))))) (e2_fin rs_d115) e2x_230 (e2_bpL cl_d115_26) (e2_cutA cl_d115_26) 4000 (e2_seek e2x_230 2) al_d115_26 [] E_d115_26 h_d115_26 = true := by decide +kernel
set_option maxRecDepth 1000000 in
theorem ci_d115_26 : e2_idl 4 (al_d115_26.set 2 (9, 0, 0)) = true := by decide +kernel
set_option maxRecDepth 1000000 in
theorem cj_d115_26 : e2_idh 4 8 h_d115_26 = true := by decide +kernel
noncomputable def cl_d115_27 : List (Nat × e2_S) := [(120, e2_cutS cu_d115_120),
  (55, e2_cutL (al_d115_28.set 3 (11, 2147483648, 2147483657)) 5 (E_d115_28.take 5) h_d115_28)]
set_option maxRecDepth 1000000 in
theorem ck_d115_27 : e2_runM (e2_orG 231 83 11 4 2147483648 2147483668 as_d113 Eb_d113 f_d113 rs_d113 (e2_orG 231 83 11 4 2147483648 2147483668 as_d112 Eb_d112 f_d112 rs_d112 (e2_orG 231 83 11 4 2147483648 2147483668 as_d111 Eb_d111 f_d111 rs_d111 (e2_orG 231 83 11 4 2147483648 2147483668 as_d110 Eb_d110 f_d110 rs_d110 (e2_orG 231 83 11 4 2147483648 2147483668 as_d109 Eb_d109 f_d109 rs_d109 (e2_orG 231 83 11 4 2147483648 2147483668 as_d108 Eb_d108 f_d108 rs_d108 (e2_orG 231 83 11 4 2147483648 2147483668 as_d107 Eb_d107 f_d107 rs_d107 (e2_orG 231 83 11 4 2147483648 2147483668 as_d106 Eb_d106 f_d106 rs_d106 (e2_orG 231 83 11 4 2147483648 2147483668 as_d105 Eb_d105 f_d105 rs_d105 (e2_orG 231 83 11 4 2147483648 2147483668 as_d104 Eb_d104 f_d104 rs_d104 (e2_orG 231 83 11 4 2147483648 2147483668 as_d103 Eb_d103 f_d103 rs_d103 (e2_orG 231 83 11 4 2147483648 2147483668 as_d102 Eb_d102 f_d102 rs_d102 (e2_orG 231 83 11 4 2147483648 2147483668 as_d101 Eb_d101 f_d101 rs_d101 (e2_orG 231 83 11 4 2147483648 2147483668 as_d100 Eb_d100 f_d100 rs_d100 (e2_orG 231 83 11 4 2147483648 2147483668 as_d99 Eb_d99 f_d99 rs_d99 (e2_orG 231 83 11 4 2147483648 2147483668 as_d98 Eb_d98 f_d98 rs_d98 (e2_orG 231 83 11 4 2147483648 2147483668 as_d97 Eb_d97 f_d97 rs_d97 (e2_orG 231 83 11 4 2147483648 2147483668 as_d96 Eb_d96 f_d96 rs_d96 (e2_orG 231 83 11 4 2147483648 2147483668 as_d95 Eb_d95 f_d95 rs_d95 (e2_orG 231 83 11 4 2147483648 2147483668 as_d94 Eb_d94 f_d94 rs_d94 (e2_cal S_d115 I_d115 4000 1))))))))))))))))))))) (e2_fin rs_d115) e2x_230 (e2_bpL cl_d115_27) (e2_cutA cl_d115_27) 4000 (e2_seek e2x_230 49) al_d115_27 [] E_d115_27 h_d115_27 = true := by decide +kernel
set_option maxRecDepth 1000000 in
theorem ci_d115_27 : e2_idl 4 (al_d115_27.set 2 (9, 0, 0)) = true := by decide +kernel
set_option maxRecDepth 1000000 in
theorem cj_d115_27 : e2_idh 4 8 h_d115_27 = true := by decide +kernel
noncomputable def cl_d115_28 : List (Nat × e2_S) := [(49, e2_cutL (al_d115_27.set 2 (12, 12, 2147483647)) 4 (E_d115_27.take 4) h_d115_27),
  (55, e2_cutL (al_d115_28.set 3 (13, 13, 2147483657)) 5 (E_d115_28.take 5) h_d115_28)]
set_option maxRecDepth 1000000 in
theorem ck_d115_28 : e2_runM (e2_orG 231 83 11 4 2147483648 2147483668 as_d113 Eb_d113 f_d113 rs_d113 (e2_orG 231 83 11 4 2147483648 2147483668 as_d112 Eb_d112 f_d112 rs_d112 (e2_orG 231 83 11 4 2147483648 2147483668 as_d111 Eb_d111 f_d111 rs_d111 (e2_orG 231 83 11 4 2147483648 2147483668 as_d110 Eb_d110 f_d110 rs_d110 (e2_orG 231 83 11 4 2147483648 2147483668 as_d109 Eb_d109 f_d109 rs_d109 (e2_orG 231 83 11 4 2147483648 2147483668 as_d108 Eb_d108 f_d108 rs_d108 (e2_orG 231 83 11 4 2147483648 2147483668 as_d107 Eb_d107 f_d107 rs_d107 (e2_orG 231 83 11 4 2147483648 2147483668 as_d106 Eb_d106 f_d106 rs_d106 (e2_orG 231 83 11 4 2147483648 2147483668 as_d105 Eb_d105 f_d105 rs_d105 (e2_orG 231 83 11 4 2147483648 2147483668 as_d104 Eb_d104 f_d104 rs_d104 (e2_orG 231 83 11 4 2147483648 2147483668 as_d103 Eb_d103 f_d103 rs_d103 (e2_orG 231 83 11 4 2147483648 2147483668 as_d102 Eb_d102 f_d102 rs_d102 (e2_orG 231 83 11 4 2147483648 2147483668 as_d101 Eb_d101 f_d101 rs_d101 (e2_orG 231 83 11 4 2147483648 2147483668 as_d100 Eb_d100 f_d100 rs_d100 (e2_orG 231 83 11 4 2147483648 2147483668 as_d99 Eb_d99 f_d99 rs_d99 (e2_orG 231 83 11 4 2147483648 2147483668 as_d98 Eb_d98 f_d98 rs_d98 (e2_orG 231 83 11 4 2147483648 2147483668 as_d97 Eb_d97 f_d97 rs_d97 (e2_orG 231 83 11 4 2147483648 2147483668 as_d96 Eb_d96 f_d96 rs_d96 (e2_orG 231 83 11 4 2147483648 2147483668 as_d95 Eb_d95 f_d95 rs_d95 (e2_orG 231 83 11 4 2147483648 2147483668 as_d94 Eb_d94 f_d94 rs_d94 (e2_cal S_d115 I_d115 4000 1))))))))))))))))))))) (e2_fin rs_d115) e2x_230 (e2_bpL cl_d115_28) (e2_cutA cl_d115_28) 4000 (e2_seek e2x_230 55) al_d115_28 [] E_d115_28 h_d115_28 = true := by decide +kernel
set_option maxRecDepth 1000000 in
theorem ci_d115_28 : e2_idl 5 (al_d115_28.set 3 (9, 0, 0)) = true := by decide +kernel
set_option maxRecDepth 1000000 in
theorem cj_d115_28 : e2_idh 5 8 h_d115_28 = true := by decide +kernel
set_option maxRecDepth 1000000 in
theorem ck_d115_u120 : e2_cutsB (e2_orG 231 83 11 4 2147483648 2147483668 as_d113 Eb_d113 f_d113 rs_d113 (e2_orG 231 83 11 4 2147483648 2147483668 as_d112 Eb_d112 f_d112 rs_d112 (e2_orG 231 83 11 4 2147483648 2147483668 as_d111 Eb_d111 f_d111 rs_d111 (e2_orG 231 83 11 4 2147483648 2147483668 as_d110 Eb_d110 f_d110 rs_d110 (e2_orG 231 83 11 4 2147483648 2147483668 as_d109 Eb_d109 f_d109 rs_d109 (e2_orG 231 83 11 4 2147483648 2147483668 as_d108 Eb_d108 f_d108 rs_d108 (e2_orG 231 83 11 4 2147483648 2147483668 as_d107 Eb_d107 f_d107 rs_d107 (e2_orG 231 83 11 4 2147483648 2147483668 as_d106 Eb_d106 f_d106 rs_d106 (e2_orG 231 83 11 4 2147483648 2147483668 as_d105 Eb_d105 f_d105 rs_d105 (e2_orG 231 83 11 4 2147483648 2147483668 as_d104 Eb_d104 f_d104 rs_d104 (e2_orG 231 83 11 4 2147483648 2147483668 as_d103 Eb_d103 f_d103 rs_d103 (e2_orG 231 83 11 4 2147483648 2147483668 as_d102 Eb_d102 f_d102 rs_d102 (e2_orG 231 83 11 4 2147483648 2147483668 as_d101 Eb_d101 f_d101 rs_d101 (e2_orG 231 83 11 4 2147483648 2147483668 as_d100 Eb_d100 f_d100 rs_d100 (e2_orG 231 83 11 4 2147483648 2147483668 as_d99 Eb_d99 f_d99 rs_d99 (e2_orG 231 83 11 4 2147483648 2147483668 as_d98 Eb_d98 f_d98 rs_d98 (e2_orG 231 83 11 4 2147483648 2147483668 as_d97 Eb_d97 f_d97 rs_d97 (e2_orG 231 83 11 4 2147483648 2147483668 as_d96 Eb_d96 f_d96 rs_d96 (e2_orG 231 83 11 4 2147483648 2147483668 as_d95 Eb_d95 f_d95 rs_d95 (e2_orG 231 83 11 4 2147483648 2147483668 as_d94 Eb_d94 f_d94 rs_d94 (e2_cal S_d115 I_d115 4000 1))))))))))))))))))))) (e2_fin rs_d115) e2x_230 120 4000 cu_d115_120 = true := by decide +kernel
set_option maxRecDepth 1000000 in
theorem cs_d115 (hen : en_ok) (l : Launch) : e2_smOk l 5 s_d115 := by
  refine e2_conC (H := 4) (C := evd_230) (call := (e2_orG 231 83 11 4 2147483648 2147483668 as_d113 Eb_d113 f_d113 rs_d113 (e2_orG 231 83 11 4 2147483648 2147483668 as_d112 Eb_d112 f_d112 rs_d112 (e2_orG 231 83 11 4 2147483648 2147483668 as_d111 Eb_d111 f_d111 rs_d111 (e2_orG 231 83 11 4 2147483648 2147483668 as_d110 Eb_d110 f_d110 rs_d110 (e2_orG 231 83 11 4 2147483648 2147483668 as_d109 Eb_d109 f_d109 rs_d109 (e2_orG 231 83 11 4 2147483648 2147483668 as_d108 Eb_d108 f_d108 rs_d108 (e2_orG 231 83 11 4 2147483648 2147483668 as_d107 Eb_d107 f_d107 rs_d107 (e2_orG 231 83 11 4 2147483648 2147483668 as_d106 Eb_d106 f_d106 rs_d106 (e2_orG 231 83 11 4 2147483648 2147483668 as_d105 Eb_d105 f_d105 rs_d105 (e2_orG 231 83 11 4 2147483648 2147483668 as_d104 Eb_d104 f_d104 rs_d104 (e2_orG 231 83 11 4 2147483648 2147483668 as_d103 Eb_d103 f_d103 rs_d103 (e2_orG 231 83 11 4 2147483648 2147483668 as_d102 Eb_d102 f_d102 rs_d102 (e2_orG 231 83 11 4 2147483648 2147483668 as_d101 Eb_d101 f_d101 rs_d101 (e2_orG 231 83 11 4 2147483648 2147483668 as_d100 Eb_d100 f_d100 rs_d100 (e2_orG 231 83 11 4 2147483648 2147483668 as_d99 Eb_d99 f_d99 rs_d99 (e2_orG 231 83 11 4 2147483648 2147483668 as_d98 Eb_d98 f_d98 rs_d98 (e2_orG 231 83 11 4 2147483648 2147483668 as_d97 Eb_d97 f_d97 rs_d97 (e2_orG 231 83 11 4 2147483648 2147483668 as_d96 Eb_d96 f_d96 rs_d96 (e2_orG 231 83 11 4 2147483648 2147483668 as_d95 Eb_d95 f_d95 rs_d95 (e2_orG 231 83 11 4 2147483648 2147483668 as_d94 Eb_d94 f_d94 rs_d94 (e2_cal S_d115 I_d115 4000 1)))))))))))))))))))))) ei_230 (fun d hd => (e2_orG_ok (k0 := 231) (a := 83) (j := 11) (n := 4) (lo := 2147483648) (hi := 2147483668) (as0 := as_d113) (Eb := Eb_d113) (f := f_d113) (res := rs_d113) (e2_orG_ok (k0 := 231) (a := 83) (j := 11) (n := 4) (lo := 2147483648) (hi := 2147483668) (as0 := as_d112) (Eb := Eb_d112) (f := f_d112) (res := rs_d112) (e2_orG_ok (k0 := 231) (a := 83) (j := 11) (n := 4) (lo := 2147483648) (hi := 2147483668) (as0 := as_d111) (Eb := Eb_d111) (f := f_d111) (res := rs_d111) (e2_orG_ok (k0 := 231) (a := 83) (j := 11) (n := 4) (lo := 2147483648) (hi := 2147483668) (as0 := as_d110) (Eb := Eb_d110) (f := f_d110) (res := rs_d110) (e2_orG_ok (k0 := 231) (a := 83) (j := 11) (n := 4) (lo := 2147483648) (hi := 2147483668) (as0 := as_d109) (Eb := Eb_d109) (f := f_d109) (res := rs_d109) (e2_orG_ok (k0 := 231) (a := 83) (j := 11) (n := 4) (lo := 2147483648) (hi := 2147483668) (as0 := as_d108) (Eb := Eb_d108) (f := f_d108) (res := rs_d108) (e2_orG_ok (k0 := 231) (a := 83) (j := 11) (n := 4) (lo := 2147483648) (hi := 2147483668) (as0 := as_d107) (Eb := Eb_d107) (f := f_d107) (res := rs_d107) (e2_orG_ok (k0 := 231) (a := 83) (j := 11) (n := 4) (lo := 2147483648) (hi := 2147483668) (as0 := as_d106) (Eb := Eb_d106) (f := f_d106) (res := rs_d106) (e2_orG_ok (k0 := 231) (a := 83) (j := 11) (n := 4) (lo := 2147483648) (hi := 2147483668) (as0 := as_d105) (Eb := Eb_d105) (f := f_d105) (res := rs_d105) (e2_orG_ok (k0 := 231) (a := 83) (j := 11) (n := 4) (lo := 2147483648) (hi := 2147483668) (as0 := as_d104) (Eb := Eb_d104) (f := f_d104) (res := rs_d104) (e2_orG_ok (k0 := 231) (a := 83) (j := 11) (n := 4) (lo := 2147483648) (hi := 2147483668) (as0 := as_d103) (Eb := Eb_d103) (f := f_d103) (res := rs_d103) (e2_orG_ok (k0 := 231) (a := 83) (j := 11) (n := 4) (lo := 2147483648) (hi := 2147483668) (as0 := as_d102) (Eb := Eb_d102) (f := f_d102) (res := rs_d102) (e2_orG_ok (k0 := 231) (a := 83) (j := 11) (n := 4) (lo := 2147483648) (hi := 2147483668) (as0 := as_d101) (Eb := Eb_d101) (f := f_d101) (res := rs_d101) (e2_orG_ok (k0 := 231) (a := 83) (j := 11) (n := 4) (lo := 2147483648) (hi := 2147483668) (as0 := as_d100) (Eb := Eb_d100) (f := f_d100) (res := rs_d100) (e2_orG_ok (k0 := 231) (a := 83) (j := 11) (n := 4) (lo := 2147483648) (hi := 2147483668) (as0 := as_d99) (Eb := Eb_d99) (f := f_d99) (res := rs_d99) (e2_orG_ok (k0 := 231) (a := 83) (j := 11) (n := 4) (lo := 2147483648) (hi := 2147483668) (as0 := as_d98) (Eb := Eb_d98) (f := f_d98) (res := rs_d98) (e2_orG_ok (k0 := 231) (a := 83) (j := 11) (n := 4) (lo := 2147483648) (hi := 2147483668) (as0 := as_d97) (Eb := Eb_d97) (f := f_d97) (res := rs_d97) (e2_orG_ok (k0 := 231) (a := 83) (j := 11) (n := 4) (lo := 2147483648) (hi := 2147483668) (as0 := as_d96) (Eb := Eb_d96) (f := f_d96) (res := rs_d96) (e2_orG_ok (k0 := 231) (a := 83) (j := 11) (n := 4) (lo := 2147483648) (hi := 2147483668) (as0 := as_d95) (Eb := Eb_d95) (f := f_d95) (res := rs_d95) (e2_orG_ok (k0 := 231) (a := 83) (j := 11) (n := 4) (lo := 2147483648) (hi := 2147483668) (as0 := as_d94) (Eb := Eb_d94) (f := f_d94) (res := rs_d94) (e2_cal_ok hen (e2_fa (cs_d44 hen l) (e2_fa (cs_d45 hen l) (e2_fa (cs_d46 hen l) (e2_fa (cs_d47 hen l) (e2_fa (cs_d48 hen l) (e2_fa (cs_d49 hen l) (e2_fa (cs_d50 hen l) (e2_fa (cs_d51 hen l) (e2_fa (cs_d52 hen l) (e2_fa (cs_d53 hen l) (e2_fa (cs_d54 hen l) (e2_fa (cs_d55 hen l) (e2_fa (cs_d56 hen l) (e2_fa (cs_d57 hen l) (e2_fa (cs_d58 hen l) (e2_fa (cs_d59 hen l) (e2_fa (cs_d60 hen l) (e2_fa (cs_d61 hen l) (e2_fa (cs_d62 hen l) (e2_fa (cs_d63 hen l) e2_fz)))))))))))))))))))) (e2_fa ein_216 (e2_fa ein_217 (e2_fa ein_227 e2_fz))) 1 d (by omega)) rfl (by decide +kernel) (fun M hM => (cs_d94 hen l).2 M hM d (by omega)) (e2_okGB_ok cog_d94)) rfl (by decide +kernel) (fun M hM => (cs_d95 hen l).2 M hM d (by omega)) (e2_okGB_ok cog_d95)) rfl (by decide +kernel) (fun M hM => (cs_d96 hen l).2 M hM d (by omega)) (e2_okGB_ok cog_d96)) rfl (by decide +kernel) (fun M hM => (cs_d97 hen l).2 M hM d (by omega)) (e2_okGB_ok cog_d97)) rfl (by decide +kernel) (fun M hM => (cs_d98 hen l).2 M hM d (by omega)) (e2_okGB_ok cog_d98)) rfl (by decide +kernel) (fun M hM => (cs_d99 hen l).2 M hM d (by omega)) (e2_okGB_ok cog_d99)) rfl (by decide +kernel) (fun M hM => (cs_d100 hen l).2 M hM d (by omega)) (e2_okGB_ok cog_d100)) rfl (by decide +kernel) (fun M hM => (cs_d101 hen l).2 M hM d (by omega)) (e2_okGB_ok cog_d101)) rfl (by decide +kernel) (fun M hM => (cs_d102 hen l).2 M hM d (by omega)) (e2_okGB_ok cog_d102)) rfl (by decide +kernel) (fun M hM => (cs_d103 hen l).2 M hM d (by omega)) (e2_okGB_ok cog_d103)) rfl (by decide +kernel) (fun M hM => (cs_d104 hen l).2 M hM d (by omega)) (e2_okGB_ok cog_d104)) rfl (by decide +kernel) (fun M hM => (cs_d105 hen l).2 M hM d (by omega)) (e2_okGB_ok cog_d105)) rfl (by decide +kernel) (fun M hM => (cs_d106 hen l).2 M hM d (by omega)) (e2_okGB_ok cog_d106)) rfl (by decide +kernel) (fun M hM => (cs_d107 hen l).2 M hM d (by omega)) (e2_okGB_ok cog_d107)) rfl (by decide +kernel) (fun M hM => (cs_d108 hen l).2 M hM d (by omega)) (e2_okGB_ok cog_d108)) rfl (by decide +kernel) (fun M hM => (cs_d109 hen l).2 M hM d (by omega)) (e2_okGB_ok cog_d109)) rfl (by decide +kernel) (fun M hM => (cs_d110 hen l).2 M hM d (by omega)) (e2_okGB_ok cog_d110)) rfl (by decide +kernel) (fun M hM => (cs_d111 hen l).2 M hM d (by omega)) (e2_okGB_ok cog_d111)) rfl (by decide +kernel) (fun M hM => (cs_d112 hen l).2 M hM d (by omega)) (e2_okGB_ok cog_d112)) rfl (by decide +kernel) (fun M hM => (cs_d113 hen l).2 M hM d (by omega)) (e2_okGB_ok cog_d113))) (by decide) co_d115 fun M d _ hC hcall p e R s m args below meth c Q D cA A ads r0 ha hl0 => ?_
  have EN_120 := e2_cutS_ok (bp := 120) (cuts := cu_d115_120) (e2_cuts_len hl0 (by decide +kernel)) (e2_cuts_ok hen ha hcall (hC [76, 192, 195]) (X := e2x_230) ex2_230 (e2_cuts_len hl0 (by decide +kernel)) ck_d115_u120)
  have L_27 : e2_gdM M p l e R s m args below meth c Q D cA A ads r0 49 al_d115_27 [] E_d115_27 h_d115_27 := by
    refine e2_indD (u := 4) (j := 2) (lo := 2147483647) (hi := 2147483667) hl0 (by decide) rfl rfl rfl ci_d115_27 cj_d115_27 ?_
    intro r_27 k_27 hk_27 hp_27 hs_27 hn_27
    have hl_27 : r_27.length ≤ 5 := hs_27.len rfl
    have ha_27 := ha.ext hp_27
    have L_28 : e2_gdM M p l e R s m args below meth c Q D cA A ads r_27 55 al_d115_28 [] E_d115_28 h_d115_28 := by
      refine e2_indL (u := 5) (j := 3) (lo := 2147483648) (hi := 2147483657) (b := 5) (dd := 0) hl_27 (by decide) rfl rfl (Or.inr ⟨rfl, rfl⟩) rfl ci_d115_28 cj_d115_28 ?_
      intro r_28 k_28 hk_28 hp_28 hs_28 hn_28
      have hl_28 : r_28.length ≤ 6 := hs_28.len rfl
      have ha_28 := ha_27.ext hp_28
      exact e2_fromM hen ha_28 hcall (e2_cutA_ok (e2_fa (fun al st E h hc => (hn_27 al st E h hc).ext hp_28) (e2_fa (fun al st E h hc => hn_28 al st E h hc) e2_fz))) (hC [76, 192, 195]) (X := e2x_230) ex2_230 55 ck_d115_28
    have EN_28 := e2_entL (u := 5) (j := 3) (lo := 2147483648) (hi := 2147483657) hl_27 rfl rfl rfl ci_d115_28 cj_d115_28 L_28
    exact e2_fromM hen ha_27 hcall (e2_cutA_ok (e2_fa (fun al st E h hc => (EN_120 al st E h hc).ext hp_27) (e2_fa (fun al st E h hc => EN_28 al st E h hc) e2_fz))) (hC [76, 192, 195]) (X := e2x_230) ex2_230 49 ck_d115_27
  have EN_27 := e2_entL (u := 4) (j := 2) (lo := 2147483647) (hi := 2147483667) hl0 rfl rfl rfl ci_d115_27 cj_d115_27 L_27
  have L_26 : e2_gdM M p l e R s m args below meth c Q D cA A ads r0 2 al_d115_26 [] E_d115_26 h_d115_26 := by
    refine e2_indL (u := 4) (j := 2) (lo := 2147483648) (hi := 2147483657) (b := 4) (dd := 0) hl0 (by decide) rfl rfl (Or.inr ⟨rfl, rfl⟩) rfl ci_d115_26 cj_d115_26 ?_
    intro r_26 k_26 hk_26 hp_26 hs_26 hn_26
    have hl_26 : r_26.length ≤ 5 := hs_26.len rfl
    have ha_26 := ha.ext hp_26
    exact e2_fromM hen ha_26 hcall (e2_cutA_ok (e2_fa (fun al st E h hc => hn_26 al st E h hc) (e2_fa (fun al st E h hc => (EN_27 al st E h hc).ext hp_26) e2_fz))) (hC [76, 192, 195]) (X := e2x_230) ex2_230 2 ck_d115_26
  have EN_26 := e2_entL (u := 4) (j := 2) (lo := 2147483648) (hi := 2147483657) hl0 rfl rfl rfl ci_d115_26 cj_d115_26 L_26
  exact e2_from hen ha hcall (e2_cutA_ok (e2_fa (fun al st E h hc => EN_26 al st E h hc) e2_fz)) (hC [76, 192, 195]) (X := e2x_230) ex2_230 0 ck_d115_e
/-! d116 X10_read -/
def as_d116 : List ev_V := [(2, 83, 0), (11, 0, 4294967295)]
def E_d116 : e2_E := [(2147483648, 2147583648, 0, 0), (2147483650, 2147483650, 1, 0), (2147483648, 2147483688, 2, 0), (2147483648, 2147483688, 3, 0)]
def dn1205 : e2_Q7 := (dn674, dn457)
def dn1206 : e2_Q8 := (dn477, dn1205)
noncomputable def f_d116 : ev_H := (dn1206 : e2_Q8)
noncomputable def q_d116_0 : ev_H := (dn1206 : e2_Q8)
noncomputable def rs_d116 : e2_Rs := [((11, 2147483647, 2147483668), q_d116_0)]
noncomputable def s_d116 : e2_Sm := (230, as_d116, E_d116, f_d116, rs_d116)
noncomputable def S_d116 : List e2_Sm := [s_d44, s_d45, s_d46, s_d47, s_d48, s_d49, s_d50, s_d51, s_d52, s_d53, s_d54, s_d55, s_d56, s_d57, s_d58, s_d59, s_d60, s_d61, s_d62, s_d63]
noncomputable def I_d116 : List e2_In := [(216, 1, e2x_216), (217, 1, e2x_217), (227, 2, e2x_227)]
set_option maxRecDepth 1000000 in
theorem co_d116 : e2_okSB E_d116.length as_d116 f_d116 rs_d116 = true := by decide +kernel
def al_d116_26 : List ev_V := [(2, 83, 0), (11, 0, 4294967295), (1, 4, 4294967296), (9, 0, 0), (9, 0, 0)]
def E_d116_26 : e2_E := [(2147483648, 2147583648, 0, 0), (2147483650, 2147483650, 1, 0), (2147483648, 2147483688, 2, 0), (2147483648, 2147483688, 3, 0), (2147483648, 2147483657, 4, 0)]
noncomputable def h_d116_26 : ev_H := (dn1206 : e2_Q8)
def al_d116_27 : List ev_V := [(2, 83, 0), (11, 0, 4294967295), (1, 4, 4294967296), (9, 0, 0), (9, 0, 0)]
def E_d116_27 : e2_E := [(2147483648, 2147583648, 0, 0), (2147483650, 2147483650, 1, 0), (2147483648, 2147483688, 2, 0), (2147483648, 2147483688, 3, 0), (2147483647, 2147483667, 4, 0)]
noncomputable def h_d116_27 : ev_H := (dn1206 : e2_Q8)
def al_d116_28 : List ev_V := [(2, 83, 0), (11, 0, 4294967295), (1, 4, 4294967296), (1, 5, 4294967296), (9, 0, 0)]
def E_d116_28 : e2_E := [(2147483648, 2147583648, 0, 0), (2147483650, 2147483650, 1, 0), (2147483648, 2147483688, 2, 0), (2147483648, 2147483688, 3, 0), (2147483648, 2147483667, 4, 0), (2147483648, 2147483657, 5, 0)]
noncomputable def h_d116_28 : ev_H := (dn1206 : e2_Q8)
def dn1207 : e2_Q7 := (dn674, dn1038)
def dn1208 : e2_Q8 := (dn477, dn1207)
noncomputable def h_d116_0 : ev_H := (dn1208 : e2_Q8)
def dn1209 : e2_Q7 := (dn674, dn1050)
def dn1210 : e2_Q8 := (dn477, dn1209)
noncomputable def h_d116_1 : ev_H := (dn1210 : e2_Q8)
def dn1211 : e2_Q7 := (dn674, dn1058)
def dn1212 : e2_Q8 := (dn477, dn1211)
noncomputable def h_d116_2 : ev_H := (dn1212 : e2_Q8)
def dn1213 : e2_Q7 := (dn674, dn1066)
def dn1214 : e2_Q8 := (dn477, dn1213)
noncomputable def h_d116_3 : ev_H := (dn1214 : e2_Q8)
def dn1215 : e2_Q7 := (dn674, dn1074)
def dn1216 : e2_Q8 := (dn477, dn1215)
noncomputable def h_d116_4 : ev_H := (dn1216 : e2_Q8)
def dn1217 : e2_Q7 := (dn674, dn1082)
def dn1218 : e2_Q8 := (dn477, dn1217)
noncomputable def h_d116_5 : ev_H := (dn1218 : e2_Q8)
def dn1219 : e2_Q7 := (dn674, dn1090)
def dn1220 : e2_Q8 := (dn477, dn1219)
noncomputable def h_d116_6 : ev_H := (dn1220 : e2_Q8)
def dn1221 : e2_Q7 := (dn674, dn1098)
def dn1222 : e2_Q8 := (dn477, dn1221)
noncomputable def h_d116_7 : ev_H := (dn1222 : e2_Q8)
def dn1223 : e2_Q7 := (dn674, dn1106)
def dn1224 : e2_Q8 := (dn477, dn1223)
noncomputable def h_d116_8 : ev_H := (dn1224 : e2_Q8)
def dn1225 : e2_Q7 := (dn674, dn1114)
def dn1226 : e2_Q8 := (dn477, dn1225)
noncomputable def h_d116_9 : ev_H := (dn1226 : e2_Q8)
def dn1227 : e2_Q7 := (dn674, dn1122)
def dn1228 : e2_Q8 := (dn477, dn1227)
noncomputable def h_d116_10 : ev_H := (dn1228 : e2_Q8)
def dn1229 : e2_Q7 := (dn674, dn1130)
def dn1230 : e2_Q8 := (dn477, dn1229)
noncomputable def h_d116_11 : ev_H := (dn1230 : e2_Q8)
def dn1231 : e2_Q7 := (dn674, dn1138)
def dn1232 : e2_Q8 := (dn477, dn1231)
noncomputable def h_d116_12 : ev_H := (dn1232 : e2_Q8)
def dn1233 : e2_Q7 := (dn674, dn1146)
def dn1234 : e2_Q8 := (dn477, dn1233)
noncomputable def h_d116_13 : ev_H := (dn1234 : e2_Q8)
def dn1235 : e2_Q7 := (dn674, dn1154)
def dn1236 : e2_Q8 := (dn477, dn1235)
noncomputable def h_d116_14 : ev_H := (dn1236 : e2_Q8)
def dn1237 : e2_Q7 := (dn674, dn1162)
def dn1238 : e2_Q8 := (dn477, dn1237)
noncomputable def h_d116_15 : ev_H := (dn1238 : e2_Q8)
def dn1239 : e2_Q7 := (dn674, dn1170)
def dn1240 : e2_Q8 := (dn477, dn1239)
noncomputable def h_d116_16 : ev_H := (dn1240 : e2_Q8)
def dn1241 : e2_Q7 := (dn674, dn1178)
def dn1242 : e2_Q8 := (dn477, dn1241)
noncomputable def h_d116_17 : ev_H := (dn1242 : e2_Q8)
def dn1243 : e2_Q7 := (dn674, dn1186)
def dn1244 : e2_Q8 := (dn477, dn1243)
noncomputable def h_d116_18 : ev_H := (dn1244 : e2_Q8)
def dn1245 : e2_Q7 := (dn674, dn1194)
def dn1246 : e2_Q8 := (dn477, dn1245)
noncomputable def h_d116_19 : ev_H := (dn1246 : e2_Q8)
noncomputable def h_d116_20 : ev_H := (dn1206 : e2_Q8)
def dn1247 : e2_Q7 := (dn674, dn1202)
def dn1248 : e2_Q8 := (dn477, dn1247)
noncomputable def h_d116_21 : ev_H := (dn1248 : e2_Q8)
noncomputable def h_d116_22 : ev_H := (dn1248 : e2_Q8)
noncomputable def h_d116_23 : ev_H := (dn1248 : e2_Q8)
noncomputable def h_d116_24 : ev_H := (dn1248 : e2_Q8)
noncomputable def h_d116_25 : ev_H := (dn1248 : e2_Q8)
noncomputable def cu_d116_120 : List e2_Cu := [([(2, 83, 0), (11, 0, 4294967295), (0, 0, 0), (0, 8, 0), (9, 0, 0)], [(2147483648, 2147583648, 0, 0), (2147483650, 2147483650, 1, 0), (2147483648, 2147483688, 2, 0), (2147483648, 2147483688, 3, 0)], h_d116_0),
  ([(2, 83, 0), (11, 0, 4294967295), (0, 1, 0), (11, 2147483648, 2147483656), (11, 2147483647, 2147483649)], [(2147483648, 2147583648, 0, 0), (2147483650, 2147483650, 1, 0), (2147483648, 2147483688, 2, 0), (2147483648, 2147483688, 3, 0)], h_d116_1),
  ([(2, 83, 0), (11, 0, 4294967295), (0, 2, 0), (11, 2147483648, 2147483656), (11, 2147483647, 2147483649)], [(2147483648, 2147583648, 0, 0), (2147483650, 2147483650, 1, 0), (2147483648, 2147483688, 2, 0), (2147483648, 2147483688, 3, 0)], h_d116_2),
  ([(2, 83, 0), (11, 0, 4294967295), (0, 3, 0), (11, 2147483648, 2147483656), (11, 2147483647, 2147483649)], [(2147483648, 2147583648, 0, 0), (2147483650, 2147483650, 1, 0), (2147483648, 2147483688, 2, 0), (2147483648, 2147483688, 3, 0)], h_d116_3),
  ([(2, 83, 0), (11, 0, 4294967295), (0, 4, 0), (11, 2147483648, 2147483656), (11, 2147483647, 2147483649)], [(2147483648, 2147583648, 0, 0), (2147483650, 2147483650, 1, 0), (2147483648, 2147483688, 2, 0), (2147483648, 2147483688, 3, 0)], h_d116_4),
  ([(2, 83, 0), (11, 0, 4294967295), (0, 5, 0), (11, 2147483648, 2147483656), (11, 2147483647, 2147483649)], [(2147483648, 2147583648, 0, 0), (2147483650, 2147483650, 1, 0), (2147483648, 2147483688, 2, 0), (2147483648, 2147483688, 3, 0)], h_d116_5),
  ([(2, 83, 0), (11, 0, 4294967295), (0, 6, 0), (11, 2147483648, 2147483656), (11, 2147483647, 2147483649)], [(2147483648, 2147583648, 0, 0), (2147483650, 2147483650, 1, 0), (2147483648, 2147483688, 2, 0), (2147483648, 2147483688, 3, 0)], h_d116_6),
  ([(2, 83, 0), (11, 0, 4294967295), (0, 7, 0), (11, 2147483648, 2147483656), (11, 2147483647, 2147483649)], [(2147483648, 2147583648, 0, 0), (2147483650, 2147483650, 1, 0), (2147483648, 2147483688, 2, 0), (2147483648, 2147483688, 3, 0)], h_d116_7),
  ([(2, 83, 0), (11, 0, 4294967295), (0, 8, 0), (11, 2147483648, 2147483656), (11, 2147483647, 2147483649)], [(2147483648, 2147583648, 0, 0), (2147483650, 2147483650, 1, 0), (2147483648, 2147483688, 2, 0), (2147483648, 2147483688, 3, 0)], h_d116_8),
  ([(2, 83, 0), (11, 0, 4294967295), (0, 9, 0), (11, 2147483648, 2147483656), (11, 2147483647, 2147483649)], [(2147483648, 2147583648, 0, 0), (2147483650, 2147483650, 1, 0), (2147483648, 2147483688, 2, 0), (2147483648, 2147483688, 3, 0)], h_d116_9),
  ([(2, 83, 0), (11, 0, 4294967295), (0, 10, 0), (11, 2147483648, 2147483656), (11, 2147483647, 2147483649)], [(2147483648, 2147583648, 0, 0), (2147483650, 2147483650, 1, 0), (2147483648, 2147483688, 2, 0), (2147483648, 2147483688, 3, 0)], h_d116_10),
  ([(2, 83, 0), (11, 0, 4294967295), (0, 11, 0), (11, 2147483648, 2147483656), (11, 2147483647, 2147483649)], [(2147483648, 2147583648, 0, 0), (2147483650, 2147483650, 1, 0), (2147483648, 2147483688, 2, 0), (2147483648, 2147483688, 3, 0)], h_d116_11),
  ([(2, 83, 0), (11, 0, 4294967295), (0, 12, 0), (11, 2147483648, 2147483656), (11, 2147483647, 2147483649)], [(2147483648, 2147583648, 0, 0), (2147483650, 2147483650, 1, 0), (2147483648, 2147483688, 2, 0), (2147483648, 2147483688, 3, 0)], h_d116_12),
  ([(2, 83, 0), (11, 0, 4294967295), (0, 13, 0), (11, 2147483648, 2147483656), (11, 2147483647, 2147483649)], [(2147483648, 2147583648, 0, 0), (2147483650, 2147483650, 1, 0), (2147483648, 2147483688, 2, 0), (2147483648, 2147483688, 3, 0)], h_d116_13),
  ([(2, 83, 0), (11, 0, 4294967295), (0, 14, 0), (11, 2147483648, 2147483656), (11, 2147483647, 2147483649)], [(2147483648, 2147583648, 0, 0), (2147483650, 2147483650, 1, 0), (2147483648, 2147483688, 2, 0), (2147483648, 2147483688, 3, 0)], h_d116_14),
  ([(2, 83, 0), (11, 0, 4294967295), (0, 15, 0), (11, 2147483648, 2147483656), (11, 2147483647, 2147483649)], [(2147483648, 2147583648, 0, 0), (2147483650, 2147483650, 1, 0), (2147483648, 2147483688, 2, 0), (2147483648, 2147483688, 3, 0)], h_d116_15),
  ([(2, 83, 0), (11, 0, 4294967295), (0, 16, 0), (11, 2147483648, 2147483656), (11, 2147483647, 2147483649)], [(2147483648, 2147583648, 0, 0), (2147483650, 2147483650, 1, 0), (2147483648, 2147483688, 2, 0), (2147483648, 2147483688, 3, 0)], h_d116_16),
  ([(2, 83, 0), (11, 0, 4294967295), (0, 17, 0), (11, 2147483648, 2147483656), (11, 2147483647, 2147483649)], [(2147483648, 2147583648, 0, 0), (2147483650, 2147483650, 1, 0), (2147483648, 2147483688, 2, 0), (2147483648, 2147483688, 3, 0)], h_d116_17),
  ([(2, 83, 0), (11, 0, 4294967295), (0, 18, 0), (11, 2147483648, 2147483656), (11, 2147483647, 2147483649)], [(2147483648, 2147583648, 0, 0), (2147483650, 2147483650, 1, 0), (2147483648, 2147483688, 2, 0), (2147483648, 2147483688, 3, 0)], h_d116_18),
  ([(2, 83, 0), (11, 0, 4294967295), (0, 19, 0), (11, 2147483648, 2147483656), (11, 2147483647, 2147483649)], [(2147483648, 2147583648, 0, 0), (2147483650, 2147483650, 1, 0), (2147483648, 2147483688, 2, 0), (2147483648, 2147483688, 3, 0)], h_d116_19),
  ([(2, 83, 0), (11, 0, 4294967295), (0, 20, 0), (11, 2147483648, 2147483656), (11, 2147483647, 2147483649)], [(2147483648, 2147583648, 0, 0), (2147483650, 2147483650, 1, 0), (2147483648, 2147483688, 2, 0), (2147483648, 2147483688, 3, 0)], h_d116_20),
  ([(2, 83, 0), (11, 0, 4294967295), (0, 21, 0), (11, 2147483648, 2147483649), (11, 2147483648, 2147483649)], [(2147483648, 2147583648, 0, 0), (2147483650, 2147483650, 1, 0), (2147483648, 2147483688, 2, 0), (2147483648, 2147483688, 3, 0)], h_d116_21),
  ([(2, 83, 0), (11, 0, 4294967295), (0, 22, 0), (11, 2147483648, 2147483649), (11, 2147483648, 2147483649)], [(2147483648, 2147583648, 0, 0), (2147483650, 2147483650, 1, 0), (2147483648, 2147483688, 2, 0), (2147483648, 2147483688, 3, 0)], h_d116_22),
  ([(2, 83, 0), (11, 0, 4294967295), (0, 23, 0), (11, 2147483648, 2147483649), (11, 2147483648, 2147483649)], [(2147483648, 2147583648, 0, 0), (2147483650, 2147483650, 1, 0), (2147483648, 2147483688, 2, 0), (2147483648, 2147483688, 3, 0)], h_d116_23),
  ([(2, 83, 0), (11, 0, 4294967295), (0, 24, 0), (11, 2147483648, 2147483649), (11, 2147483648, 2147483649)], [(2147483648, 2147583648, 0, 0), (2147483650, 2147483650, 1, 0), (2147483648, 2147483688, 2, 0), (2147483648, 2147483688, 3, 0)], h_d116_24),
  ([(2, 83, 0), (11, 0, 4294967295), (0, 25, 0), (11, 2147483648, 2147483649), (11, 2147483648, 2147483649)], [(2147483648, 2147583648, 0, 0), (2147483650, 2147483650, 1, 0), (2147483648, 2147483688, 2, 0), (2147483648, 2147483688, 3, 0)], h_d116_25)]
noncomputable def cl_d116_e : List (Nat × e2_S) := [(2, e2_cutL (al_d116_26.set 2 (11, 2147483648, 2147483657)) 4 (E_d116_26.take 4) h_d116_26)]
set_option maxRecDepth 1000000 in
theorem ck_d116_e : e2_run (e2_orG 231 83 11 4 2147483648 2147483668 as_d113 Eb_d113 f_d113 rs_d113 (e2_orG 231 83 11 4 2147483648 2147483668 as_d112 Eb_d112 f_d112 rs_d112 (e2_orG 231 83 11 4 2147483648 2147483668 as_d111 Eb_d111 f_d111 rs_d111 (e2_orG 231 83 11 4 2147483648 2147483668 as_d110 Eb_d110 f_d110 rs_d110 (e2_orG 231 83 11 4 2147483648 2147483668 as_d109 Eb_d109 f_d109 rs_d109 (e2_orG 231 83 11 4 2147483648 2147483668 as_d108 Eb_d108 f_d108 rs_d108 (e2_orG 231 83 11 4 2147483648 2147483668 as_d107 Eb_d107 f_d107 rs_d107 (e2_orG 231 83 11 4 2147483648 2147483668 as_d106 Eb_d106 f_d106 rs_d106 (e2_orG 231 83 11 4 2147483648 2147483668 as_d105 Eb_d105 f_d105 rs_d105 (e2_orG 231 83 11 4 2147483648 2147483668 as_d104 Eb_d104 f_d104 rs_d104 (e2_orG 231 83 11 4 2147483648 2147483668 as_d103 Eb_d103 f_d103 rs_d103 (e2_orG 231 83 11 4 2147483648 2147483668 as_d102 Eb_d102 f_d102 rs_d102 (e2_orG 231 83 11 4 2147483648 2147483668 as_d101 Eb_d101 f_d101 rs_d101 (e2_orG 231 83 11 4 2147483648 2147483668 as_d100 Eb_d100 f_d100 rs_d100 (e2_orG 231 83 11 4 2147483648 2147483668 as_d99 Eb_d99 f_d99 rs_d99 (e2_orG 231 83 11 4 2147483648 2147483668 as_d98 Eb_d98 f_d98 rs_d98 (e2_orG 231 83 11 4 2147483648 2147483668 as_d97 Eb_d97 f_d97 rs_d97 (e2_orG 231 83 11 4 2147483648 2147483668 as_d96 Eb_d96 f_d96 rs_d96 (e2_orG 231 83 11 4 2147483648 2147483668 as_d95 Eb_d95 f_d95 rs_d95 (e2_orG 231 83 11 4 2147483648 2147483668 as_d94 Eb_d94 f_d94 rs_d94 (e2_cal S_d116 I_d116 4000 1))))))))))))))))))))) (e2_fin rs_d116) e2x_230 (e2_bpL cl_d116_e) (e2_cutA cl_d116_e) 4000 (e2_seek e2x_230 0) (e2_al 5 as_d116) [] E_d116 f_d116 = true := by decide +kernel
noncomputable def cl_d116_26 : List (Nat × e2_S) := [(2, e2_cutL (al_d116_26.set 2 (13, 12, 2147483657)) 4 (E_d116_26.take 4) h_d116_26),
  (49, e2_cutL (al_d116_27.set 2 (11, 2147483647, 2147483667)) 4 (E_d116_27.take 4) h_d116_27)]
set_option maxRecDepth 1000000 in
theorem ck_d116_26 : e2_runM (e2_orG 231 83 11 4 2147483648 2147483668 as_d113 Eb_d113 f_d113 rs_d113 (e2_orG 231 83 11 4 2147483648 2147483668 as_d112 Eb_d112 f_d112 rs_d112 (e2_orG 231 83 11 4 2147483648 2147483668 as_d111 Eb_d111 f_d111 rs_d111 (e2_orG 231 83 11 4 2147483648 2147483668 as_d110 Eb_d110 f_d110 rs_d110 (e2_orG 231 83 11 4 2147483648 2147483668 as_d109 Eb_d109 f_d109 rs_d109 (e2_orG 231 83 11 4 2147483648 2147483668 as_d108 Eb_d108 f_d108 rs_d108 (e2_orG 231 83 11 4 2147483648 2147483668 as_d107 Eb_d107 f_d107 rs_d107 (e2_orG 231 83 11 4 2147483648 2147483668 as_d106 Eb_d106 f_d106 rs_d106 (e2_orG 231 83 11 4 2147483648 2147483668 as_d105 Eb_d105 f_d105 rs_d105 (e2_orG 231 83 11 4 2147483648 2147483668 as_d104 Eb_d104 f_d104 rs_d104 (e2_orG 231 83 11 4 2147483648 2147483668 as_d103 Eb_d103 f_d103 rs_d103 (e2_orG 231 83 11 4 2147483648 2147483668 as_d102 Eb_d102 f_d102 rs_d102 (e2_orG 231 83 11 4 2147483648 2147483668 as_d101 Eb_d101 f_d101 rs_d101 (e2_orG 231 83 11 4 2147483648 2147483668 as_d100 Eb_d100 f_d100 rs_d100 (e2_orG 231 83 11 4 2147483648 2147483668 as_d99 Eb_d99 f_d99 rs_d99 (e2_orG 231 83 11 4 2147483648 2147483668 as_d98 Eb_d98 f_d98 rs_d98 (e2_orG 231 83 11 4 2147483648 2147483668 as_d97 Eb_d97 f_d97 rs_d97 (e2_orG 231 83 11 4 2147483648 2147483668 as_d96 Eb_d96 f_d96 rs_d96 (e2_orG 231 83 11 4 2147483648 2147483668 as_d95 Eb_d95 f_d95 rs_d95 (e2_orG 231 83 11 4 2147483648 2147483668 as_d94 Eb_d94 f_d94 rs_d94 (e2_cal S_d116 I_d116 4000 1))))))))))))))))))))) (e2_fin rs_d116) e2x_230 (e2_bpL cl_d116_26) (e2_cutA cl_d116_26) 4000 (e2_seek e2x_230 2) al_d116_26 [] E_d116_26 h_d116_26 = true := by decide +kernel
set_option maxRecDepth 1000000 in
theorem ci_d116_26 : e2_idl 4 (al_d116_26.set 2 (9, 0, 0)) = true := by decide +kernel
set_option maxRecDepth 1000000 in
theorem cj_d116_26 : e2_idh 4 8 h_d116_26 = true := by decide +kernel
noncomputable def cl_d116_27 : List (Nat × e2_S) := [(120, e2_cutS cu_d116_120),
  (55, e2_cutL (al_d116_28.set 3 (11, 2147483648, 2147483657)) 5 (E_d116_28.take 5) h_d116_28)]
set_option maxRecDepth 1000000 in
theorem ck_d116_27 : e2_runM (e2_orG 231 83 11 4 2147483648 2147483668 as_d113 Eb_d113 f_d113 rs_d113 (e2_orG 231 83 11 4 2147483648 2147483668 as_d112 Eb_d112 f_d112 rs_d112 (e2_orG 231 83 11 4 2147483648 2147483668 as_d111 Eb_d111 f_d111 rs_d111 (e2_orG 231 83 11 4 2147483648 2147483668 as_d110 Eb_d110 f_d110 rs_d110 (e2_orG 231 83 11 4 2147483648 2147483668 as_d109 Eb_d109 f_d109 rs_d109 (e2_orG 231 83 11 4 2147483648 2147483668 as_d108 Eb_d108 f_d108 rs_d108 (e2_orG 231 83 11 4 2147483648 2147483668 as_d107 Eb_d107 f_d107 rs_d107 (e2_orG 231 83 11 4 2147483648 2147483668 as_d106 Eb_d106 f_d106 rs_d106 (e2_orG 231 83 11 4 2147483648 2147483668 as_d105 Eb_d105 f_d105 rs_d105 (e2_orG 231 83 11 4 2147483648 2147483668 as_d104 Eb_d104 f_d104 rs_d104 (e2_orG 231 83 11 4 2147483648 2147483668 as_d103 Eb_d103 f_d103 rs_d103 (e2_orG 231 83 11 4 2147483648 2147483668 as_d102 Eb_d102 f_d102 rs_d102 (e2_orG 231 83 11 4 2147483648 2147483668 as_d101 Eb_d101 f_d101 rs_d101 (e2_orG 231 83 11 4 2147483648 2147483668 as_d100 Eb_d100 f_d100 rs_d100 (e2_orG 231 83 11 4 2147483648 2147483668 as_d99 Eb_d99 f_d99 rs_d99 (e2_orG 231 83 11 4 2147483648 2147483668 as_d98 Eb_d98 f_d98 rs_d98 (e2_orG 231 83 11 4 2147483648 2147483668 as_d97 Eb_d97 f_d97 rs_d97 (e2_orG 231 83 11 4 2147483648 2147483668 as_d96 Eb_d96 f_d96 rs_d96 (e2_orG 231 83 11 4 2147483648 2147483668 as_d95 Eb_d95 f_d95 rs_d95 (e2_orG 231 83 11 4 2147483648 2147483668 as_d94 Eb_d94 f_d94 rs_d94 (e2_cal S_d116 I_d116 4000 1))))))))))))))))))))) (e2_fin rs_d116) e2x_230 (e2_bpL cl_d116_27) (e2_cutA cl_d116_27) 4000 (e2_seek e2x_230 49) al_d116_27 [] E_d116_27 h_d116_27 = true := by decide +kernel
set_option maxRecDepth 1000000 in
theorem ci_d116_27 : e2_idl 4 (al_d116_27.set 2 (9, 0, 0)) = true := by decide +kernel
set_option maxRecDepth 1000000 in
theorem cj_d116_27 : e2_idh 4 8 h_d116_27 = true := by decide +kernel
noncomputable def cl_d116_28 : List (Nat × e2_S) := [(49, e2_cutL (al_d116_27.set 2 (12, 12, 2147483647)) 4 (E_d116_27.take 4) h_d116_27),
  (55, e2_cutL (al_d116_28.set 3 (13, 13, 2147483657)) 5 (E_d116_28.take 5) h_d116_28)]
set_option maxRecDepth 1000000 in
theorem ck_d116_28 : e2_runM (e2_orG 231 83 11 4 2147483648 2147483668 as_d113 Eb_d113 f_d113 rs_d113 (e2_orG 231 83 11 4 2147483648 2147483668 as_d112 Eb_d112 f_d112 rs_d112 (e2_orG 231 83 11 4 2147483648 2147483668 as_d111 Eb_d111 f_d111 rs_d111 (e2_orG 231 83 11 4 2147483648 2147483668 as_d110 Eb_d110 f_d110 rs_d110 (e2_orG 231 83 11 4 2147483648 2147483668 as_d109 Eb_d109 f_d109 rs_d109 (e2_orG 231 83 11 4 2147483648 2147483668 as_d108 Eb_d108 f_d108 rs_d108 (e2_orG 231 83 11 4 2147483648 2147483668 as_d107 Eb_d107 f_d107 rs_d107 (e2_orG 231 83 11 4 2147483648 2147483668 as_d106 Eb_d106 f_d106 rs_d106 (e2_orG 231 83 11 4 2147483648 2147483668 as_d105 Eb_d105 f_d105 rs_d105 (e2_orG 231 83 11 4 2147483648 2147483668 as_d104 Eb_d104 f_d104 rs_d104 (e2_orG 231 83 11 4 2147483648 2147483668 as_d103 Eb_d103 f_d103 rs_d103 (e2_orG 231 83 11 4 2147483648 2147483668 as_d102 Eb_d102 f_d102 rs_d102 (e2_orG 231 83 11 4 2147483648 2147483668 as_d101 Eb_d101 f_d101 rs_d101 (e2_orG 231 83 11 4 2147483648 2147483668 as_d100 Eb_d100 f_d100 rs_d100 (e2_orG 231 83 11 4 2147483648 2147483668 as_d99 Eb_d99 f_d99 rs_d99 (e2_orG 231 83 11 4 2147483648 2147483668 as_d98 Eb_d98 f_d98 rs_d98 (e2_orG 231 83 11 4 2147483648 2147483668 as_d97 Eb_d97 f_d97 rs_d97 (e2_orG 231 83 11 4 2147483648 2147483668 as_d96 Eb_d96 f_d96 rs_d96 (e2_orG 231 83 11 4 2147483648 2147483668 as_d95 Eb_d95 f_d95 rs_d95 (e2_orG 231 83 11 4 2147483648 2147483668 as_d94 Eb_d94 f_d94 rs_d94 (e2_cal S_d116 I_d116 4000 1))))))))))))))))))))) (e2_fin rs_d116) e2x_230 (e2_bpL cl_d116_28) (e2_cutA cl_d116_28) 4000 (e2_seek e2x_230 55) al_d116_28 [] E_d116_28 h_d116_28 = true := by decide +kernel
set_option maxRecDepth 1000000 in
theorem ci_d116_28 : e2_idl 5 (al_d116_28.set 3 (9, 0, 0)) = true := by decide +kernel
set_option maxRecDepth 1000000 in
theorem cj_d116_28 : e2_idh 5 8 h_d116_28 = true := by decide +kernel
set_option maxRecDepth 1000000 in
theorem ck_d116_u120 : e2_cutsB (e2_orG 231 83 11 4 2147483648 2147483668 as_d113 Eb_d113 f_d113 rs_d113 (e2_orG 231 83 11 4 2147483648 2147483668 as_d112 Eb_d112 f_d112 rs_d112 (e2_orG 231 83 11 4 2147483648 2147483668 as_d111 Eb_d111 f_d111 rs_d111 (e2_orG 231 83 11 4 2147483648 2147483668 as_d110 Eb_d110 f_d110 rs_d110 (e2_orG 231 83 11 4 2147483648 2147483668 as_d109 Eb_d109 f_d109 rs_d109 (e2_orG 231 83 11 4 2147483648 2147483668 as_d108 Eb_d108 f_d108 rs_d108 (e2_orG 231 83 11 4 2147483648 2147483668 as_d107 Eb_d107 f_d107 rs_d107 (e2_orG 231 83 11 4 2147483648 2147483668 as_d106 Eb_d106 f_d106 rs_d106 (e2_orG 231 83 11 4 2147483648 2147483668 as_d105 Eb_d105 f_d105 rs_d105 (e2_orG 231 83 11 4 2147483648 2147483668 as_d104 Eb_d104 f_d104 rs_d104 (e2_orG 231 83 11 4 2147483648 2147483668 as_d103 Eb_d103 f_d103 rs_d103 (e2_orG 231 83 11 4 2147483648 2147483668 as_d102 Eb_d102 f_d102 rs_d102 (e2_orG 231 83 11 4 2147483648 2147483668 as_d101 Eb_d101 f_d101 rs_d101 (e2_orG 231 83 11 4 2147483648 2147483668 as_d100 Eb_d100 f_d100 rs_d100 (e2_orG 231 83 11 4 2147483648 2147483668 as_d99 Eb_d99 f_d99 rs_d99 (e2_orG 231 83 11 4 2147483648 2147483668 as_d98 Eb_d98 f_d98 rs_d98 (e2_orG 231 83 11 4 2147483648 2147483668 as_d97 Eb_d97 f_d97 rs_d97 (e2_orG 231 83 11 4 2147483648 2147483668 as_d96 Eb_d96 f_d96 rs_d96 (e2_orG 231 83 11 4 2147483648 2147483668 as_d95 Eb_d95 f_d95 rs_d95 (e2_orG 231 83 11 4 2147483648 2147483668 as_d94 Eb_d94 f_d94 rs_d94 (e2_cal S_d116 I_d116 4000 1))))))))))))))))))))) (e2_fin rs_d116) e2x_230 120 4000 cu_d116_120 = true := by decide +kernel
set_option maxRecDepth 1000000 in
theorem cs_d116 (hen : en_ok) (l : Launch) : e2_smOk l 5 s_d116 := by
  refine e2_conC (H := 4) (C := evd_230) (call := (e2_orG 231 83 11 4 2147483648 2147483668 as_d113 Eb_d113 f_d113 rs_d113 (e2_orG 231 83 11 4 2147483648 2147483668 as_d112 Eb_d112 f_d112 rs_d112 (e2_orG 231 83 11 4 2147483648 2147483668 as_d111 Eb_d111 f_d111 rs_d111 (e2_orG 231 83 11 4 2147483648 2147483668 as_d110 Eb_d110 f_d110 rs_d110 (e2_orG 231 83 11 4 2147483648 2147483668 as_d109 Eb_d109 f_d109 rs_d109 (e2_orG 231 83 11 4 2147483648 2147483668 as_d108 Eb_d108 f_d108 rs_d108 (e2_orG 231 83 11 4 2147483648 2147483668 as_d107 Eb_d107 f_d107 rs_d107 (e2_orG 231 83 11 4 2147483648 2147483668 as_d106 Eb_d106 f_d106 rs_d106 (e2_orG 231 83 11 4 2147483648 2147483668 as_d105 Eb_d105 f_d105 rs_d105 (e2_orG 231 83 11 4 2147483648 2147483668 as_d104 Eb_d104 f_d104 rs_d104 (e2_orG 231 83 11 4 2147483648 2147483668 as_d103 Eb_d103 f_d103 rs_d103 (e2_orG 231 83 11 4 2147483648 2147483668 as_d102 Eb_d102 f_d102 rs_d102 (e2_orG 231 83 11 4 2147483648 2147483668 as_d101 Eb_d101 f_d101 rs_d101 (e2_orG 231 83 11 4 2147483648 2147483668 as_d100 Eb_d100 f_d100 rs_d100 (e2_orG 231 83 11 4 2147483648 2147483668 as_d99 Eb_d99 f_d99 rs_d99 (e2_orG 231 83 11 4 2147483648 2147483668 as_d98 Eb_d98 f_d98 rs_d98 (e2_orG 231 83 11 4 2147483648 2147483668 as_d97 Eb_d97 f_d97 rs_d97 (e2_orG 231 83 11 4 2147483648 2147483668 as_d96 Eb_d96 f_d96 rs_d96 (e2_orG 231 83 11 4 2147483648 2147483668 as_d95 Eb_d95 f_d95 rs_d95 (e2_orG 231 83 11 4 2147483648 2147483668 as_d94 Eb_d94 f_d94 rs_d94 (e2_cal S_d116 I_d116 4000 1)))))))))))))))))))))) ei_230 (fun d hd => (e2_orG_ok (k0 := 231) (a := 83) (j := 11) (n := 4) (lo := 2147483648) (hi := 2147483668) (as0 := as_d113) (Eb := Eb_d113) (f := f_d113) (res := rs_d113) (e2_orG_ok (k0 := 231) (a := 83) (j := 11) (n := 4) (lo := 2147483648) (hi := 2147483668) (as0 := as_d112) (Eb := Eb_d112) (f := f_d112) (res := rs_d112) (e2_orG_ok (k0 := 231) (a := 83) (j := 11) (n := 4) (lo := 2147483648) (hi := 2147483668) (as0 := as_d111) (Eb := Eb_d111) (f := f_d111) (res := rs_d111) (e2_orG_ok (k0 := 231) (a := 83) (j := 11) (n := 4) (lo := 2147483648) (hi := 2147483668) (as0 := as_d110) (Eb := Eb_d110) (f := f_d110) (res := rs_d110) (e2_orG_ok (k0 := 231) (a := 83) (j := 11) (n := 4) (lo := 2147483648) (hi := 2147483668) (as0 := as_d109) (Eb := Eb_d109) (f := f_d109) (res := rs_d109) (e2_orG_ok (k0 := 231) (a := 83) (j := 11) (n := 4) (lo := 2147483648) (hi := 2147483668) (as0 := as_d108) (Eb := Eb_d108) (f := f_d108) (res := rs_d108) (e2_orG_ok (k0 := 231) (a := 83) (j := 11) (n := 4) (lo := 2147483648) (hi := 2147483668) (as0 := as_d107) (Eb := Eb_d107) (f := f_d107) (res := rs_d107) (e2_orG_ok (k0 := 231) (a := 83) (j := 11) (n := 4) (lo := 2147483648) (hi := 2147483668) (as0 := as_d106) (Eb := Eb_d106) (f := f_d106) (res := rs_d106) (e2_orG_ok (k0 := 231) (a := 83) (j := 11) (n := 4) (lo := 2147483648) (hi := 2147483668) (as0 := as_d105) (Eb := Eb_d105) (f := f_d105) (res := rs_d105) (e2_orG_ok (k0 := 231) (a := 83) (j := 11) (n := 4) (lo := 2147483648) (hi := 2147483668) (as0 := as_d104) (Eb := Eb_d104) (f := f_d104) (res := rs_d104) (e2_orG_ok (k0 := 231) (a := 83) (j := 11) (n := 4) (lo := 2147483648) (hi := 2147483668) (as0 := as_d103) (Eb := Eb_d103) (f := f_d103) (res := rs_d103) (e2_orG_ok (k0 := 231) (a := 83) (j := 11) (n := 4) (lo := 2147483648) (hi := 2147483668) (as0 := as_d102) (Eb := Eb_d102) (f := f_d102) (res := rs_d102) (e2_orG_ok (k0 := 231) (a := 83) (j := 11) (n := 4) (lo := 2147483648) (hi := 2147483668) (as0 := as_d101) (Eb := Eb_d101) (f := f_d101) (res := rs_d101) (e2_orG_ok (k0 := 231) (a := 83) (j := 11) (n := 4) (lo := 2147483648) (hi := 2147483668) (as0 := as_d100) (Eb := Eb_d100) (f := f_d100) (res := rs_d100) (e2_orG_ok (k0 := 231) (a := 83) (j := 11) (n := 4) (lo := 2147483648) (hi := 2147483668) (as0 := as_d99) (Eb := Eb_d99) (f := f_d99) (res := rs_d99) (e2_orG_ok (k0 := 231) (a := 83) (j := 11) (n := 4) (lo := 2147483648) (hi := 2147483668) (as0 := as_d98) (Eb := Eb_d98) (f := f_d98) (res := rs_d98) (e2_orG_ok (k0 := 231) (a := 83) (j := 11) (n := 4) (lo := 2147483648) (hi := 2147483668) (as0 := as_d97) (Eb := Eb_d97) (f := f_d97) (res := rs_d97) (e2_orG_ok (k0 := 231) (a := 83) (j := 11) (n := 4) (lo := 2147483648) (hi := 2147483668) (as0 := as_d96) (Eb := Eb_d96) (f := f_d96) (res := rs_d96) (e2_orG_ok (k0 := 231) (a := 83) (j := 11) (n := 4) (lo := 2147483648) (hi := 2147483668) (as0 := as_d95) (Eb := Eb_d95) (f := f_d95) (res := rs_d95) (e2_orG_ok (k0 := 231) (a := 83) (j := 11) (n := 4) (lo := 2147483648) (hi := 2147483668) (as0 := as_d94) (Eb := Eb_d94) (f := f_d94) (res := rs_d94) (e2_cal_ok hen (e2_fa (cs_d44 hen l) (e2_fa (cs_d45 hen l) (e2_fa (cs_d46 hen l) (e2_fa (cs_d47 hen l) (e2_fa (cs_d48 hen l) (e2_fa (cs_d49 hen l) (e2_fa (cs_d50 hen l) (e2_fa (cs_d51 hen l) (e2_fa (cs_d52 hen l) (e2_fa (cs_d53 hen l) (e2_fa (cs_d54 hen l) (e2_fa (cs_d55 hen l) (e2_fa (cs_d56 hen l) (e2_fa (cs_d57 hen l) (e2_fa (cs_d58 hen l) (e2_fa (cs_d59 hen l) (e2_fa (cs_d60 hen l) (e2_fa (cs_d61 hen l) (e2_fa (cs_d62 hen l) (e2_fa (cs_d63 hen l) e2_fz)))))))))))))))))))) (e2_fa ein_216 (e2_fa ein_217 (e2_fa ein_227 e2_fz))) 1 d (by omega)) rfl (by decide +kernel) (fun M hM => (cs_d94 hen l).2 M hM d (by omega)) (e2_okGB_ok cog_d94)) rfl (by decide +kernel) (fun M hM => (cs_d95 hen l).2 M hM d (by omega)) (e2_okGB_ok cog_d95)) rfl (by decide +kernel) (fun M hM => (cs_d96 hen l).2 M hM d (by omega)) (e2_okGB_ok cog_d96)) rfl (by decide +kernel) (fun M hM => (cs_d97 hen l).2 M hM d (by omega)) (e2_okGB_ok cog_d97)) rfl (by decide +kernel) (fun M hM => (cs_d98 hen l).2 M hM d (by omega)) (e2_okGB_ok cog_d98)) rfl (by decide +kernel) (fun M hM => (cs_d99 hen l).2 M hM d (by omega)) (e2_okGB_ok cog_d99)) rfl (by decide +kernel) (fun M hM => (cs_d100 hen l).2 M hM d (by omega)) (e2_okGB_ok cog_d100)) rfl (by decide +kernel) (fun M hM => (cs_d101 hen l).2 M hM d (by omega)) (e2_okGB_ok cog_d101)) rfl (by decide +kernel) (fun M hM => (cs_d102 hen l).2 M hM d (by omega)) (e2_okGB_ok cog_d102)) rfl (by decide +kernel) (fun M hM => (cs_d103 hen l).2 M hM d (by omega)) (e2_okGB_ok cog_d103)) rfl (by decide +kernel) (fun M hM => (cs_d104 hen l).2 M hM d (by omega)) (e2_okGB_ok cog_d104)) rfl (by decide +kernel) (fun M hM => (cs_d105 hen l).2 M hM d (by omega)) (e2_okGB_ok cog_d105)) rfl (by decide +kernel) (fun M hM => (cs_d106 hen l).2 M hM d (by omega)) (e2_okGB_ok cog_d106)) rfl (by decide +kernel) (fun M hM => (cs_d107 hen l).2 M hM d (by omega)) (e2_okGB_ok cog_d107)) rfl (by decide +kernel) (fun M hM => (cs_d108 hen l).2 M hM d (by omega)) (e2_okGB_ok cog_d108)) rfl (by decide +kernel) (fun M hM => (cs_d109 hen l).2 M hM d (by omega)) (e2_okGB_ok cog_d109)) rfl (by decide +kernel) (fun M hM => (cs_d110 hen l).2 M hM d (by omega)) (e2_okGB_ok cog_d110)) rfl (by decide +kernel) (fun M hM => (cs_d111 hen l).2 M hM d (by omega)) (e2_okGB_ok cog_d111)) rfl (by decide +kernel) (fun M hM => (cs_d112 hen l).2 M hM d (by omega)) (e2_okGB_ok cog_d112)) rfl (by decide +kernel) (fun M hM => (cs_d113 hen l).2 M hM d (by omega)) (e2_okGB_ok cog_d113))) (by decide) co_d116 fun M d _ hC hcall p e R s m args below meth c Q D cA A ads r0 ha hl0 => ?_
  have EN_120 := e2_cutS_ok (bp := 120) (cuts := cu_d116_120) (e2_cuts_len hl0 (by decide +kernel)) (e2_cuts_ok hen ha hcall (hC [76, 192, 195]) (X := e2x_230) ex2_230 (e2_cuts_len hl0 (by decide +kernel)) ck_d116_u120)
  have L_27 : e2_gdM M p l e R s m args below meth c Q D cA A ads r0 49 al_d116_27 [] E_d116_27 h_d116_27 := by
    refine e2_indD (u := 4) (j := 2) (lo := 2147483647) (hi := 2147483667) hl0 (by decide) rfl rfl rfl ci_d116_27 cj_d116_27 ?_
    intro r_27 k_27 hk_27 hp_27 hs_27 hn_27
    have hl_27 : r_27.length ≤ 5 := hs_27.len rfl
    have ha_27 := ha.ext hp_27
    have L_28 : e2_gdM M p l e R s m args below meth c Q D cA A ads r_27 55 al_d116_28 [] E_d116_28 h_d116_28 := by
      refine e2_indL (u := 5) (j := 3) (lo := 2147483648) (hi := 2147483657) (b := 5) (dd := 0) hl_27 (by decide) rfl rfl (Or.inr ⟨rfl, rfl⟩) rfl ci_d116_28 cj_d116_28 ?_
      intro r_28 k_28 hk_28 hp_28 hs_28 hn_28
      have hl_28 : r_28.length ≤ 6 := hs_28.len rfl
      have ha_28 := ha_27.ext hp_28
      exact e2_fromM hen ha_28 hcall (e2_cutA_ok (e2_fa (fun al st E h hc => (hn_27 al st E h hc).ext hp_28) (e2_fa (fun al st E h hc => hn_28 al st E h hc) e2_fz))) (hC [76, 192, 195]) (X := e2x_230) ex2_230 55 ck_d116_28
    have EN_28 := e2_entL (u := 5) (j := 3) (lo := 2147483648) (hi := 2147483657) hl_27 rfl rfl rfl ci_d116_28 cj_d116_28 L_28
    exact e2_fromM hen ha_27 hcall (e2_cutA_ok (e2_fa (fun al st E h hc => (EN_120 al st E h hc).ext hp_27) (e2_fa (fun al st E h hc => EN_28 al st E h hc) e2_fz))) (hC [76, 192, 195]) (X := e2x_230) ex2_230 49 ck_d116_27
  have EN_27 := e2_entL (u := 4) (j := 2) (lo := 2147483647) (hi := 2147483667) hl0 rfl rfl rfl ci_d116_27 cj_d116_27 L_27
  have L_26 : e2_gdM M p l e R s m args below meth c Q D cA A ads r0 2 al_d116_26 [] E_d116_26 h_d116_26 := by
    refine e2_indL (u := 4) (j := 2) (lo := 2147483648) (hi := 2147483657) (b := 4) (dd := 0) hl0 (by decide) rfl rfl (Or.inr ⟨rfl, rfl⟩) rfl ci_d116_26 cj_d116_26 ?_
    intro r_26 k_26 hk_26 hp_26 hs_26 hn_26
    have hl_26 : r_26.length ≤ 5 := hs_26.len rfl
    have ha_26 := ha.ext hp_26
    exact e2_fromM hen ha_26 hcall (e2_cutA_ok (e2_fa (fun al st E h hc => hn_26 al st E h hc) (e2_fa (fun al st E h hc => (EN_27 al st E h hc).ext hp_26) e2_fz))) (hC [76, 192, 195]) (X := e2x_230) ex2_230 2 ck_d116_26
  have EN_26 := e2_entL (u := 4) (j := 2) (lo := 2147483648) (hi := 2147483657) hl0 rfl rfl rfl ci_d116_26 cj_d116_26 L_26
  exact e2_from hen ha hcall (e2_cutA_ok (e2_fa (fun al st E h hc => EN_26 al st E h hc) e2_fz)) (hC [76, 192, 195]) (X := e2x_230) ex2_230 0 ck_d116_e
/-! d117 X10_read -/
def as_d117 : List ev_V := [(2, 83, 0), (11, 0, 4294967295)]
def E_d117 : e2_E := [(2147483648, 2147583648, 0, 0), (2147483651, 2147483651, 1, 0), (2147483648, 2147483688, 2, 0), (2147483648, 2147483688, 3, 0)]
def dn1249 : e2_Q7 := (dn724, dn457)
def dn1250 : e2_Q8 := (dn477, dn1249)
noncomputable def f_d117 : ev_H := (dn1250 : e2_Q8)
noncomputable def q_d117_0 : ev_H := (dn1250 : e2_Q8)
noncomputable def rs_d117 : e2_Rs := [((11, 2147483647, 2147483668), q_d117_0)]
noncomputable def s_d117 : e2_Sm := (230, as_d117, E_d117, f_d117, rs_d117)
noncomputable def S_d117 : List e2_Sm := [s_d44, s_d45, s_d46, s_d47, s_d48, s_d49, s_d50, s_d51, s_d52, s_d53, s_d54, s_d55, s_d56, s_d57, s_d58, s_d59, s_d60, s_d61, s_d62, s_d63]
noncomputable def I_d117 : List e2_In := [(216, 1, e2x_216), (217, 1, e2x_217), (227, 2, e2x_227)]
set_option maxRecDepth 1000000 in
theorem co_d117 : e2_okSB E_d117.length as_d117 f_d117 rs_d117 = true := by decide +kernel
def al_d117_26 : List ev_V := [(2, 83, 0), (11, 0, 4294967295), (1, 4, 4294967296), (9, 0, 0), (9, 0, 0)]
def E_d117_26 : e2_E := [(2147483648, 2147583648, 0, 0), (2147483651, 2147483651, 1, 0), (2147483648, 2147483688, 2, 0), (2147483648, 2147483688, 3, 0), (2147483648, 2147483657, 4, 0)]
noncomputable def h_d117_26 : ev_H := (dn1250 : e2_Q8)
def al_d117_27 : List ev_V := [(2, 83, 0), (11, 0, 4294967295), (1, 4, 4294967296), (9, 0, 0), (9, 0, 0)]
def E_d117_27 : e2_E := [(2147483648, 2147583648, 0, 0), (2147483651, 2147483651, 1, 0), (2147483648, 2147483688, 2, 0), (2147483648, 2147483688, 3, 0), (2147483647, 2147483667, 4, 0)]
noncomputable def h_d117_27 : ev_H := (dn1250 : e2_Q8)
def al_d117_28 : List ev_V := [(2, 83, 0), (11, 0, 4294967295), (1, 4, 4294967296), (1, 5, 4294967296), (9, 0, 0)]
def E_d117_28 : e2_E := [(2147483648, 2147583648, 0, 0), (2147483651, 2147483651, 1, 0), (2147483648, 2147483688, 2, 0), (2147483648, 2147483688, 3, 0), (2147483648, 2147483667, 4, 0), (2147483648, 2147483657, 5, 0)]
noncomputable def h_d117_28 : ev_H := (dn1250 : e2_Q8)
def dn1251 : e2_Q7 := (dn724, dn1038)
def dn1252 : e2_Q8 := (dn477, dn1251)
noncomputable def h_d117_0 : ev_H := (dn1252 : e2_Q8)
def dn1253 : e2_Q7 := (dn724, dn1050)
def dn1254 : e2_Q8 := (dn477, dn1253)
noncomputable def h_d117_1 : ev_H := (dn1254 : e2_Q8)
def dn1255 : e2_Q7 := (dn724, dn1058)
def dn1256 : e2_Q8 := (dn477, dn1255)
noncomputable def h_d117_2 : ev_H := (dn1256 : e2_Q8)
def dn1257 : e2_Q7 := (dn724, dn1066)
def dn1258 : e2_Q8 := (dn477, dn1257)
noncomputable def h_d117_3 : ev_H := (dn1258 : e2_Q8)
def dn1259 : e2_Q7 := (dn724, dn1074)
def dn1260 : e2_Q8 := (dn477, dn1259)
noncomputable def h_d117_4 : ev_H := (dn1260 : e2_Q8)
def dn1261 : e2_Q7 := (dn724, dn1082)
def dn1262 : e2_Q8 := (dn477, dn1261)
noncomputable def h_d117_5 : ev_H := (dn1262 : e2_Q8)
def dn1263 : e2_Q7 := (dn724, dn1090)
def dn1264 : e2_Q8 := (dn477, dn1263)
noncomputable def h_d117_6 : ev_H := (dn1264 : e2_Q8)
def dn1265 : e2_Q7 := (dn724, dn1098)
def dn1266 : e2_Q8 := (dn477, dn1265)
noncomputable def h_d117_7 : ev_H := (dn1266 : e2_Q8)
def dn1267 : e2_Q7 := (dn724, dn1106)
def dn1268 : e2_Q8 := (dn477, dn1267)
noncomputable def h_d117_8 : ev_H := (dn1268 : e2_Q8)
def dn1269 : e2_Q7 := (dn724, dn1114)
def dn1270 : e2_Q8 := (dn477, dn1269)
noncomputable def h_d117_9 : ev_H := (dn1270 : e2_Q8)
def dn1271 : e2_Q7 := (dn724, dn1122)
def dn1272 : e2_Q8 := (dn477, dn1271)
noncomputable def h_d117_10 : ev_H := (dn1272 : e2_Q8)
def dn1273 : e2_Q7 := (dn724, dn1130)
def dn1274 : e2_Q8 := (dn477, dn1273)
noncomputable def h_d117_11 : ev_H := (dn1274 : e2_Q8)
def dn1275 : e2_Q7 := (dn724, dn1138)
def dn1276 : e2_Q8 := (dn477, dn1275)
noncomputable def h_d117_12 : ev_H := (dn1276 : e2_Q8)
def dn1277 : e2_Q7 := (dn724, dn1146)
def dn1278 : e2_Q8 := (dn477, dn1277)
noncomputable def h_d117_13 : ev_H := (dn1278 : e2_Q8)
def dn1279 : e2_Q7 := (dn724, dn1154)
def dn1280 : e2_Q8 := (dn477, dn1279)
noncomputable def h_d117_14 : ev_H := (dn1280 : e2_Q8)
def dn1281 : e2_Q7 := (dn724, dn1162)
def dn1282 : e2_Q8 := (dn477, dn1281)
noncomputable def h_d117_15 : ev_H := (dn1282 : e2_Q8)
def dn1283 : e2_Q7 := (dn724, dn1170)
def dn1284 : e2_Q8 := (dn477, dn1283)
noncomputable def h_d117_16 : ev_H := (dn1284 : e2_Q8)
def dn1285 : e2_Q7 := (dn724, dn1178)
def dn1286 : e2_Q8 := (dn477, dn1285)
noncomputable def h_d117_17 : ev_H := (dn1286 : e2_Q8)
def dn1287 : e2_Q7 := (dn724, dn1186)
def dn1288 : e2_Q8 := (dn477, dn1287)
noncomputable def h_d117_18 : ev_H := (dn1288 : e2_Q8)
def dn1289 : e2_Q7 := (dn724, dn1194)
def dn1290 : e2_Q8 := (dn477, dn1289)
noncomputable def h_d117_19 : ev_H := (dn1290 : e2_Q8)
noncomputable def h_d117_20 : ev_H := (dn1250 : e2_Q8)
def dn1291 : e2_Q7 := (dn724, dn1202)
def dn1292 : e2_Q8 := (dn477, dn1291)
noncomputable def h_d117_21 : ev_H := (dn1292 : e2_Q8)
noncomputable def h_d117_22 : ev_H := (dn1292 : e2_Q8)
noncomputable def h_d117_23 : ev_H := (dn1292 : e2_Q8)
noncomputable def h_d117_24 : ev_H := (dn1292 : e2_Q8)
noncomputable def h_d117_25 : ev_H := (dn1292 : e2_Q8)
noncomputable def cu_d117_120 : List e2_Cu := [([(2, 83, 0), (11, 0, 4294967295), (0, 0, 0), (0, 8, 0), (9, 0, 0)], [(2147483648, 2147583648, 0, 0), (2147483651, 2147483651, 1, 0), (2147483648, 2147483688, 2, 0), (2147483648, 2147483688, 3, 0)], h_d117_0),
  ([(2, 83, 0), (11, 0, 4294967295), (0, 1, 0), (11, 2147483648, 2147483656), (11, 2147483647, 2147483650)], [(2147483648, 2147583648, 0, 0), (2147483651, 2147483651, 1, 0), (2147483648, 2147483688, 2, 0), (2147483648, 2147483688, 3, 0)], h_d117_1),
  ([(2, 83, 0), (11, 0, 4294967295), (0, 2, 0), (11, 2147483648, 2147483656), (11, 2147483647, 2147483650)], [(2147483648, 2147583648, 0, 0), (2147483651, 2147483651, 1, 0), (2147483648, 2147483688, 2, 0), (2147483648, 2147483688, 3, 0)], h_d117_2),
  ([(2, 83, 0), (11, 0, 4294967295), (0, 3, 0), (11, 2147483648, 2147483656), (11, 2147483647, 2147483650)], [(2147483648, 2147583648, 0, 0), (2147483651, 2147483651, 1, 0), (2147483648, 2147483688, 2, 0), (2147483648, 2147483688, 3, 0)], h_d117_3),
  ([(2, 83, 0), (11, 0, 4294967295), (0, 4, 0), (11, 2147483648, 2147483656), (11, 2147483647, 2147483650)], [(2147483648, 2147583648, 0, 0), (2147483651, 2147483651, 1, 0), (2147483648, 2147483688, 2, 0), (2147483648, 2147483688, 3, 0)], h_d117_4),
  ([(2, 83, 0), (11, 0, 4294967295), (0, 5, 0), (11, 2147483648, 2147483656), (11, 2147483647, 2147483650)], [(2147483648, 2147583648, 0, 0), (2147483651, 2147483651, 1, 0), (2147483648, 2147483688, 2, 0), (2147483648, 2147483688, 3, 0)], h_d117_5),
  ([(2, 83, 0), (11, 0, 4294967295), (0, 6, 0), (11, 2147483648, 2147483656), (11, 2147483647, 2147483650)], [(2147483648, 2147583648, 0, 0), (2147483651, 2147483651, 1, 0), (2147483648, 2147483688, 2, 0), (2147483648, 2147483688, 3, 0)], h_d117_6),
  ([(2, 83, 0), (11, 0, 4294967295), (0, 7, 0), (11, 2147483648, 2147483656), (11, 2147483647, 2147483650)], [(2147483648, 2147583648, 0, 0), (2147483651, 2147483651, 1, 0), (2147483648, 2147483688, 2, 0), (2147483648, 2147483688, 3, 0)], h_d117_7),
  ([(2, 83, 0), (11, 0, 4294967295), (0, 8, 0), (11, 2147483648, 2147483656), (11, 2147483647, 2147483650)], [(2147483648, 2147583648, 0, 0), (2147483651, 2147483651, 1, 0), (2147483648, 2147483688, 2, 0), (2147483648, 2147483688, 3, 0)], h_d117_8),
  ([(2, 83, 0), (11, 0, 4294967295), (0, 9, 0), (11, 2147483648, 2147483656), (11, 2147483647, 2147483650)], [(2147483648, 2147583648, 0, 0), (2147483651, 2147483651, 1, 0), (2147483648, 2147483688, 2, 0), (2147483648, 2147483688, 3, 0)], h_d117_9),
  ([(2, 83, 0), (11, 0, 4294967295), (0, 10, 0), (11, 2147483648, 2147483656), (11, 2147483647, 2147483650)], [(2147483648, 2147583648, 0, 0), (2147483651, 2147483651, 1, 0), (2147483648, 2147483688, 2, 0), (2147483648, 2147483688, 3, 0)], h_d117_10),
  ([(2, 83, 0), (11, 0, 4294967295), (0, 11, 0), (11, 2147483648, 2147483656), (11, 2147483647, 2147483650)], [(2147483648, 2147583648, 0, 0), (2147483651, 2147483651, 1, 0), (2147483648, 2147483688, 2, 0), (2147483648, 2147483688, 3, 0)], h_d117_11),
  ([(2, 83, 0), (11, 0, 4294967295), (0, 12, 0), (11, 2147483648, 2147483656), (11, 2147483647, 2147483650)], [(2147483648, 2147583648, 0, 0), (2147483651, 2147483651, 1, 0), (2147483648, 2147483688, 2, 0), (2147483648, 2147483688, 3, 0)], h_d117_12),
  ([(2, 83, 0), (11, 0, 4294967295), (0, 13, 0), (11, 2147483648, 2147483656), (11, 2147483647, 2147483650)], [(2147483648, 2147583648, 0, 0), (2147483651, 2147483651, 1, 0), (2147483648, 2147483688, 2, 0), (2147483648, 2147483688, 3, 0)], h_d117_13),
  ([(2, 83, 0), (11, 0, 4294967295), (0, 14, 0), (11, 2147483648, 2147483656), (11, 2147483647, 2147483650)], [(2147483648, 2147583648, 0, 0), (2147483651, 2147483651, 1, 0), (2147483648, 2147483688, 2, 0), (2147483648, 2147483688, 3, 0)], h_d117_14),
  ([(2, 83, 0), (11, 0, 4294967295), (0, 15, 0), (11, 2147483648, 2147483656), (11, 2147483647, 2147483650)], [(2147483648, 2147583648, 0, 0), (2147483651, 2147483651, 1, 0), (2147483648, 2147483688, 2, 0), (2147483648, 2147483688, 3, 0)], h_d117_15),
  ([(2, 83, 0), (11, 0, 4294967295), (0, 16, 0), (11, 2147483648, 2147483656), (11, 2147483647, 2147483650)], [(2147483648, 2147583648, 0, 0), (2147483651, 2147483651, 1, 0), (2147483648, 2147483688, 2, 0), (2147483648, 2147483688, 3, 0)], h_d117_16),
  ([(2, 83, 0), (11, 0, 4294967295), (0, 17, 0), (11, 2147483648, 2147483656), (11, 2147483647, 2147483650)], [(2147483648, 2147583648, 0, 0), (2147483651, 2147483651, 1, 0), (2147483648, 2147483688, 2, 0), (2147483648, 2147483688, 3, 0)], h_d117_17),
  ([(2, 83, 0), (11, 0, 4294967295), (0, 18, 0), (11, 2147483648, 2147483656), (11, 2147483647, 2147483650)], [(2147483648, 2147583648, 0, 0), (2147483651, 2147483651, 1, 0), (2147483648, 2147483688, 2, 0), (2147483648, 2147483688, 3, 0)], h_d117_18),
  ([(2, 83, 0), (11, 0, 4294967295), (0, 19, 0), (11, 2147483648, 2147483656), (11, 2147483647, 2147483650)], [(2147483648, 2147583648, 0, 0), (2147483651, 2147483651, 1, 0), (2147483648, 2147483688, 2, 0), (2147483648, 2147483688, 3, 0)], h_d117_19),
  ([(2, 83, 0), (11, 0, 4294967295), (0, 20, 0), (11, 2147483648, 2147483656), (11, 2147483647, 2147483650)], [(2147483648, 2147583648, 0, 0), (2147483651, 2147483651, 1, 0), (2147483648, 2147483688, 2, 0), (2147483648, 2147483688, 3, 0)], h_d117_20),
  ([(2, 83, 0), (11, 0, 4294967295), (0, 21, 0), (11, 2147483648, 2147483650), (11, 2147483648, 2147483650)], [(2147483648, 2147583648, 0, 0), (2147483651, 2147483651, 1, 0), (2147483648, 2147483688, 2, 0), (2147483648, 2147483688, 3, 0)], h_d117_21),
  ([(2, 83, 0), (11, 0, 4294967295), (0, 22, 0), (11, 2147483648, 2147483650), (11, 2147483648, 2147483650)], [(2147483648, 2147583648, 0, 0), (2147483651, 2147483651, 1, 0), (2147483648, 2147483688, 2, 0), (2147483648, 2147483688, 3, 0)], h_d117_22),
  ([(2, 83, 0), (11, 0, 4294967295), (0, 23, 0), (11, 2147483648, 2147483650), (11, 2147483648, 2147483650)], [(2147483648, 2147583648, 0, 0), (2147483651, 2147483651, 1, 0), (2147483648, 2147483688, 2, 0), (2147483648, 2147483688, 3, 0)], h_d117_23),
  ([(2, 83, 0), (11, 0, 4294967295), (0, 24, 0), (11, 2147483648, 2147483650), (11, 2147483648, 2147483650)], [(2147483648, 2147583648, 0, 0), (2147483651, 2147483651, 1, 0), (2147483648, 2147483688, 2, 0), (2147483648, 2147483688, 3, 0)], h_d117_24),
  ([(2, 83, 0), (11, 0, 4294967295), (0, 25, 0), (11, 2147483648, 2147483650), (11, 2147483648, 2147483650)], [(2147483648, 2147583648, 0, 0), (2147483651, 2147483651, 1, 0), (2147483648, 2147483688, 2, 0), (2147483648, 2147483688, 3, 0)], h_d117_25)]
noncomputable def cl_d117_e : List (Nat × e2_S) := [(2, e2_cutL (al_d117_26.set 2 (11, 2147483648, 2147483657)) 4 (E_d117_26.take 4) h_d117_26)]
set_option maxRecDepth 1000000 in
theorem ck_d117_e : e2_run (e2_orG 231 83 11 4 2147483648 2147483668 as_d113 Eb_d113 f_d113 rs_d113 (e2_orG 231 83 11 4 2147483648 2147483668 as_d112 Eb_d112 f_d112 rs_d112 (e2_orG 231 83 11 4 2147483648 2147483668 as_d111 Eb_d111 f_d111 rs_d111 (e2_orG 231 83 11 4 2147483648 2147483668 as_d110 Eb_d110 f_d110 rs_d110 (e2_orG 231 83 11 4 2147483648 2147483668 as_d109 Eb_d109 f_d109 rs_d109 (e2_orG 231 83 11 4 2147483648 2147483668 as_d108 Eb_d108 f_d108 rs_d108 (e2_orG 231 83 11 4 2147483648 2147483668 as_d107 Eb_d107 f_d107 rs_d107 (e2_orG 231 83 11 4 2147483648 2147483668 as_d106 Eb_d106 f_d106 rs_d106 (e2_orG 231 83 11 4 2147483648 2147483668 as_d105 Eb_d105 f_d105 rs_d105 (e2_orG 231 83 11 4 2147483648 2147483668 as_d104 Eb_d104 f_d104 rs_d104 (e2_orG 231 83 11 4 2147483648 2147483668 as_d103 Eb_d103 f_d103 rs_d103 (e2_orG 231 83 11 4 2147483648 2147483668 as_d102 Eb_d102 f_d102 rs_d102 (e2_orG 231 83 11 4 2147483648 2147483668 as_d101 Eb_d101 f_d101 rs_d101 (e2_orG 231 83 11 4 2147483648 2147483668 as_d100 Eb_d100 f_d100 rs_d100 (e2_orG 231 83 11 4 2147483648 2147483668 as_d99 Eb_d99 f_d99 rs_d99 (e2_orG 231 83 11 4 2147483648 2147483668 as_d98 Eb_d98 f_d98 rs_d98 (e2_orG 231 83 11 4 2147483648 2147483668 as_d97 Eb_d97 f_d97 rs_d97 (e2_orG 231 83 11 4 2147483648 2147483668 as_d96 Eb_d96 f_d96 rs_d96 (e2_orG 231 83 11 4 2147483648 2147483668 as_d95 Eb_d95 f_d95 rs_d95 (e2_orG 231 83 11 4 2147483648 2147483668 as_d94 Eb_d94 f_d94 rs_d94 (e2_cal S_d117 I_d117 4000 1))))))))))))))))))))) (e2_fin rs_d117) e2x_230 (e2_bpL cl_d117_e) (e2_cutA cl_d117_e) 4000 (e2_seek e2x_230 0) (e2_al 5 as_d117) [] E_d117 f_d117 = true := by decide +kernel
noncomputable def cl_d117_26 : List (Nat × e2_S) := [(2, e2_cutL (al_d117_26.set 2 (13, 12, 2147483657)) 4 (E_d117_26.take 4) h_d117_26),
  (49, e2_cutL (al_d117_27.set 2 (11, 2147483647, 2147483667)) 4 (E_d117_27.take 4) h_d117_27)]
set_option maxRecDepth 1000000 in
theorem ck_d117_26 : e2_runM (e2_orG 231 83 11 4 2147483648 2147483668 as_d113 Eb_d113 f_d113 rs_d113 (e2_orG 231 83 11 4 2147483648 2147483668 as_d112 Eb_d112 f_d112 rs_d112 (e2_orG 231 83 11 4 2147483648 2147483668 as_d111 Eb_d111 f_d111 rs_d111 (e2_orG 231 83 11 4 2147483648 2147483668 as_d110 Eb_d110 f_d110 rs_d110 (e2_orG 231 83 11 4 2147483648 2147483668 as_d109 Eb_d109 f_d109 rs_d109 (e2_orG 231 83 11 4 2147483648 2147483668 as_d108 Eb_d108 f_d108 rs_d108 (e2_orG 231 83 11 4 2147483648 2147483668 as_d107 Eb_d107 f_d107 rs_d107 (e2_orG 231 83 11 4 2147483648 2147483668 as_d106 Eb_d106 f_d106 rs_d106 (e2_orG 231 83 11 4 2147483648 2147483668 as_d105 Eb_d105 f_d105 rs_d105 (e2_orG 231 83 11 4 2147483648 2147483668 as_d104 Eb_d104 f_d104 rs_d104 (e2_orG 231 83 11 4 2147483648 2147483668 as_d103 Eb_d103 f_d103 rs_d103 (e2_orG 231 83 11 4 2147483648 2147483668 as_d102 Eb_d102 f_d102 rs_d102 (e2_orG 231 83 11 4 2147483648 2147483668 as_d101 Eb_d101 f_d101 rs_d101 (e2_orG 231 83 11 4 2147483648 2147483668 as_d100 Eb_d100 f_d100 rs_d100 (e2_orG 231 83 11 4 2147483648 2147483668 as_d99 Eb_d99 f_d99 rs_d99 (e2_orG 231 83 11 4 2147483648 2147483668 as_d98 Eb_d98 f_d98 rs_d98 (e2_orG 231 83 11 4 2147483648 2147483668 as_d97 Eb_d97 f_d97 rs_d97 (e2_orG 231 83 11 4 2147483648 2147483668 as_d96 Eb_d96 f_d96 rs_d96 (e2_orG 231 83 11 4 2147483648 2147483668 as_d95 Eb_d95 f_d95 rs_d95 (e2_orG 231 83 11 4 2147483648 2147483668 as_d94 Eb_d94 f_d94 rs_d94 (e2_cal S_d117 I_d117 4000 1))))))))))))))))))))) (e2_fin rs_d117) e2x_230 (e2_bpL cl_d117_26) (e2_cutA cl_d117_26) 4000 (e2_seek e2x_230 2) al_d117_26 [] E_d117_26 h_d117_26 = true := by decide +kernel
set_option maxRecDepth 1000000 in
theorem ci_d117_26 : e2_idl 4 (al_d117_26.set 2 (9, 0, 0)) = true := by decide +kernel
set_option maxRecDepth 1000000 in
theorem cj_d117_26 : e2_idh 4 8 h_d117_26 = true := by decide +kernel
noncomputable def cl_d117_27 : List (Nat × e2_S) := [(120, e2_cutS cu_d117_120),
  (55, e2_cutL (al_d117_28.set 3 (11, 2147483648, 2147483657)) 5 (E_d117_28.take 5) h_d117_28)]
set_option maxRecDepth 1000000 in
theorem ck_d117_27 : e2_runM (e2_orG 231 83 11 4 2147483648 2147483668 as_d113 Eb_d113 f_d113 rs_d113 (e2_orG 231 83 11 4 2147483648 2147483668 as_d112 Eb_d112 f_d112 rs_d112 (e2_orG 231 83 11 4 2147483648 2147483668 as_d111 Eb_d111 f_d111 rs_d111 (e2_orG 231 83 11 4 2147483648 2147483668 as_d110 Eb_d110 f_d110 rs_d110 (e2_orG 231 83 11 4 2147483648 2147483668 as_d109 Eb_d109 f_d109 rs_d109 (e2_orG 231 83 11 4 2147483648 2147483668 as_d108 Eb_d108 f_d108 rs_d108 (e2_orG 231 83 11 4 2147483648 2147483668 as_d107 Eb_d107 f_d107 rs_d107 (e2_orG 231 83 11 4 2147483648 2147483668 as_d106 Eb_d106 f_d106 rs_d106 (e2_orG 231 83 11 4 2147483648 2147483668 as_d105 Eb_d105 f_d105 rs_d105 (e2_orG 231 83 11 4 2147483648 2147483668 as_d104 Eb_d104 f_d104 rs_d104 (e2_orG 231 83 11 4 2147483648 2147483668 as_d103 Eb_d103 f_d103 rs_d103 (e2_orG 231 83 11 4 2147483648 2147483668 as_d102 Eb_d102 f_d102 rs_d102 (e2_orG 231 83 11 4 2147483648 2147483668 as_d101 Eb_d101 f_d101 rs_d101 (e2_orG 231 83 11 4 2147483648 2147483668 as_d100 Eb_d100 f_d100 rs_d100 (e2_orG 231 83 11 4 2147483648 2147483668 as_d99 Eb_d99 f_d99 rs_d99 (e2_orG 231 83 11 4 2147483648 2147483668 as_d98 Eb_d98 f_d98 rs_d98 (e2_orG 231 83 11 4 2147483648 2147483668 as_d97 Eb_d97 f_d97 rs_d97 (e2_orG 231 83 11 4 2147483648 2147483668 as_d96 Eb_d96 f_d96 rs_d96 (e2_orG 231 83 11 4 2147483648 2147483668 as_d95 Eb_d95 f_d95 rs_d95 (e2_orG 231 83 11 4 2147483648 2147483668 as_d94 Eb_d94 f_d94 rs_d94 (e2_cal S_d117 I_d117 4000 1))))))))))))))))))))) (e2_fin rs_d117) e2x_230 (e2_bpL cl_d117_27) (e2_cutA cl_d117_27) 4000 (e2_seek e2x_230 49) al_d117_27 [] E_d117_27 h_d117_27 = true := by decide +kernel
set_option maxRecDepth 1000000 in
theorem ci_d117_27 : e2_idl 4 (al_d117_27.set 2 (9, 0, 0)) = true := by decide +kernel
set_option maxRecDepth 1000000 in
theorem cj_d117_27 : e2_idh 4 8 h_d117_27 = true := by decide +kernel
noncomputable def cl_d117_28 : List (Nat × e2_S) := [(49, e2_cutL (al_d117_27.set 2 (12, 12, 2147483647)) 4 (E_d117_27.take 4) h_d117_27),
  (55, e2_cutL (al_d117_28.set 3 (13, 13, 2147483657)) 5 (E_d117_28.take 5) h_d117_28)]
set_option maxRecDepth 1000000 in
theorem ck_d117_28 : e2_runM (e2_orG 231 83 11 4 2147483648 2147483668 as_d113 Eb_d113 f_d113 rs_d113 (e2_orG 231 83 11 4 2147483648 2147483668 as_d112 Eb_d112 f_d112 rs_d112 (e2_orG 231 83 11 4 2147483648 2147483668 as_d111 Eb_d111 f_d111 rs_d111 (e2_orG 231 83 11 4 2147483648 2147483668 as_d110 Eb_d110 f_d110 rs_d110 (e2_orG 231 83 11 4 2147483648 2147483668 as_d109 Eb_d109 f_d109 rs_d109 (e2_orG 231 83 11 4 2147483648 2147483668 as_d108 Eb_d108 f_d108 rs_d108 (e2_orG 231 83 11 4 2147483648 2147483668 as_d107 Eb_d107 f_d107 rs_d107 (e2_orG 231 83 11 4 2147483648 2147483668 as_d106 Eb_d106 f_d106 rs_d106 (e2_orG 231 83 11 4 2147483648 2147483668 as_d105 Eb_d105 f_d105 rs_d105 (e2_orG 231 83 11 4 2147483648 2147483668 as_d104 Eb_d104 f_d104 rs_d104 (e2_orG 231 83 11 4 2147483648 2147483668 as_d103 Eb_d103 f_d103 rs_d103 (e2_orG 231 83 11 4 2147483648 2147483668 as_d102 Eb_d102 f_d102 rs_d102 (e2_orG 231 83 11 4 2147483648 2147483668 as_d101 Eb_d101 f_d101 rs_d101 (e2_orG 231 83 11 4 2147483648 2147483668 as_d100 Eb_d100 f_d100 rs_d100 (e2_orG 231 83 11 4 2147483648 2147483668 as_d99 Eb_d99 f_d99 rs_d99 (e2_orG 231 83 11 4 2147483648 2147483668 as_d98 Eb_d98 f_d98 rs_d98 (e2_orG 231 83 11 4 2147483648 2147483668 as_d97 Eb_d97 f_d97 rs_d97 (e2_orG 231 83 11 4 2147483648 2147483668 as_d96 Eb_d96 f_d96 rs_d96 (e2_orG 231 83 11 4 2147483648 2147483668 as_d95 Eb_d95 f_d95 rs_d95 (e2_orG 231 83 11 4 2147483648 2147483668 as_d94 Eb_d94 f_d94 rs_d94 (e2_cal S_d117 I_d117 4000 1))))))))))))))))))))) (e2_fin rs_d117) e2x_230 (e2_bpL cl_d117_28) (e2_cutA cl_d117_28) 4000 (e2_seek e2x_230 55) al_d117_28 [] E_d117_28 h_d117_28 = true := by decide +kernel
set_option maxRecDepth 1000000 in
theorem ci_d117_28 : e2_idl 5 (al_d117_28.set 3 (9, 0, 0)) = true := by decide +kernel
set_option maxRecDepth 1000000 in
theorem cj_d117_28 : e2_idh 5 8 h_d117_28 = true := by decide +kernel
set_option maxRecDepth 1000000 in
theorem ck_d117_u120 : e2_cutsB (e2_orG 231 83 11 4 2147483648 2147483668 as_d113 Eb_d113 f_d113 rs_d113 (e2_orG 231 83 11 4 2147483648 2147483668 as_d112 Eb_d112 f_d112 rs_d112 (e2_orG 231 83 11 4 2147483648 2147483668 as_d111 Eb_d111 f_d111 rs_d111 (e2_orG 231 83 11 4 2147483648 2147483668 as_d110 Eb_d110 f_d110 rs_d110 (e2_orG 231 83 11 4 2147483648 2147483668 as_d109 Eb_d109 f_d109 rs_d109 (e2_orG 231 83 11 4 2147483648 2147483668 as_d108 Eb_d108 f_d108 rs_d108 (e2_orG 231 83 11 4 2147483648 2147483668 as_d107 Eb_d107 f_d107 rs_d107 (e2_orG 231 83 11 4 2147483648 2147483668 as_d106 Eb_d106 f_d106 rs_d106 (e2_orG 231 83 11 4 2147483648 2147483668 as_d105 Eb_d105 f_d105 rs_d105 (e2_orG 231 83 11 4 2147483648 2147483668 as_d104 Eb_d104 f_d104 rs_d104 (e2_orG 231 83 11 4 2147483648 2147483668 as_d103 Eb_d103 f_d103 rs_d103 (e2_orG 231 83 11 4 2147483648 2147483668 as_d102 Eb_d102 f_d102 rs_d102 (e2_orG 231 83 11 4 2147483648 2147483668 as_d101 Eb_d101 f_d101 rs_d101 (e2_orG 231 83 11 4 2147483648 2147483668 as_d100 Eb_d100 f_d100 rs_d100 (e2_orG 231 83 11 4 2147483648 2147483668 as_d99 Eb_d99 f_d99 rs_d99 (e2_orG 231 83 11 4 2147483648 2147483668 as_d98 Eb_d98 f_d98 rs_d98 (e2_orG 231 83 11 4 2147483648 2147483668 as_d97 Eb_d97 f_d97 rs_d97 (e2_orG 231 83 11 4 2147483648 2147483668 as_d96 Eb_d96 f_d96 rs_d96 (e2_orG 231 83 11 4 2147483648 2147483668 as_d95 Eb_d95 f_d95 rs_d95 (e2_orG 231 83 11 4 2147483648 2147483668 as_d94 Eb_d94 f_d94 rs_d94 (e2_cal S_d117 I_d117 4000 1))))))))))))))))))))) (e2_fin rs_d117) e2x_230 120 4000 cu_d117_120 = true := by decide +kernel
set_option maxRecDepth 1000000 in
theorem cs_d117 (hen : en_ok) (l : Launch) : e2_smOk l 5 s_d117 := by
  refine e2_conC (H := 4) (C := evd_230) (call := (e2_orG 231 83 11 4 2147483648 2147483668 as_d113 Eb_d113 f_d113 rs_d113 (e2_orG 231 83 11 4 2147483648 2147483668 as_d112 Eb_d112 f_d112 rs_d112 (e2_orG 231 83 11 4 2147483648 2147483668 as_d111 Eb_d111 f_d111 rs_d111 (e2_orG 231 83 11 4 2147483648 2147483668 as_d110 Eb_d110 f_d110 rs_d110 (e2_orG 231 83 11 4 2147483648 2147483668 as_d109 Eb_d109 f_d109 rs_d109 (e2_orG 231 83 11 4 2147483648 2147483668 as_d108 Eb_d108 f_d108 rs_d108 (e2_orG 231 83 11 4 2147483648 2147483668 as_d107 Eb_d107 f_d107 rs_d107 (e2_orG 231 83 11 4 2147483648 2147483668 as_d106 Eb_d106 f_d106 rs_d106 (e2_orG 231 83 11 4 2147483648 2147483668 as_d105 Eb_d105 f_d105 rs_d105 (e2_orG 231 83 11 4 2147483648 2147483668 as_d104 Eb_d104 f_d104 rs_d104 (e2_orG 231 83 11 4 2147483648 2147483668 as_d103 Eb_d103 f_d103 rs_d103 (e2_orG 231 83 11 4 2147483648 2147483668 as_d102 Eb_d102 f_d102 rs_d102 (e2_orG 231 83 11 4 2147483648 2147483668 as_d101 Eb_d101 f_d101 rs_d101 (e2_orG 231 83 11 4 2147483648 2147483668 as_d100 Eb_d100 f_d100 rs_d100 (e2_orG 231 83 11 4 2147483648 2147483668 as_d99 Eb_d99 f_d99 rs_d99 (e2_orG 231 83 11 4 2147483648 2147483668 as_d98 Eb_d98 f_d98 rs_d98 (e2_orG 231 83 11 4 2147483648 2147483668 as_d97 Eb_d97 f_d97 rs_d97 (e2_orG 231 83 11 4 2147483648 2147483668 as_d96 Eb_d96 f_d96 rs_d96 (e2_orG 231 83 11 4 2147483648 2147483668 as_d95 Eb_d95 f_d95 rs_d95 (e2_orG 231 83 11 4 2147483648 2147483668 as_d94 Eb_d94 f_d94 rs_d94 (e2_cal S_d117 I_d117 4000 1)))))))))))))))))))))) ei_230 (fun d hd => (e2_orG_ok (k0 := 231) (a := 83) (j := 11) (n := 4) (lo := 2147483648) (hi := 2147483668) (as0 := as_d113) (Eb := Eb_d113) (f := f_d113) (res := rs_d113) (e2_orG_ok (k0 := 231) (a := 83) (j := 11) (n := 4) (lo := 2147483648) (hi := 2147483668) (as0 := as_d112) (Eb := Eb_d112) (f := f_d112) (res := rs_d112) (e2_orG_ok (k0 := 231) (a := 83) (j := 11) (n := 4) (lo := 2147483648) (hi := 2147483668) (as0 := as_d111) (Eb := Eb_d111) (f := f_d111) (res := rs_d111) (e2_orG_ok (k0 := 231) (a := 83) (j := 11) (n := 4) (lo := 2147483648) (hi := 2147483668) (as0 := as_d110) (Eb := Eb_d110) (f := f_d110) (res := rs_d110) (e2_orG_ok (k0 := 231) (a := 83) (j := 11) (n := 4) (lo := 2147483648) (hi := 2147483668) (as0 := as_d109) (Eb := Eb_d109) (f := f_d109) (res := rs_d109) (e2_orG_ok (k0 := 231) (a := 83) (j := 11) (n := 4) (lo := 2147483648) (hi := 2147483668) (as0 := as_d108) (Eb := Eb_d108) (f := f_d108) (res := rs_d108) (e2_orG_ok (k0 := 231) (a := 83) (j := 11) (n := 4) (lo := 2147483648) (hi := 2147483668) (as0 := as_d107) (Eb := Eb_d107) (f := f_d107) (res := rs_d107) (e2_orG_ok (k0 := 231) (a := 83) (j := 11) (n := 4) (lo := 2147483648) (hi := 2147483668) (as0 := as_d106) (Eb := Eb_d106) (f := f_d106) (res := rs_d106) (e2_orG_ok (k0 := 231) (a := 83) (j := 11) (n := 4) (lo := 2147483648) (hi := 2147483668) (as0 := as_d105) (Eb := Eb_d105) (f := f_d105) (res := rs_d105) (e2_orG_ok (k0 := 231) (a := 83) (j := 11) (n := 4) (lo := 2147483648) (hi := 2147483668) (as0 := as_d104) (Eb := Eb_d104) (f := f_d104) (res := rs_d104) (e2_orG_ok (k0 := 231) (a := 83) (j := 11) (n := 4) (lo := 2147483648) (hi := 2147483668) (as0 := as_d103) (Eb := Eb_d103) (f := f_d103) (res := rs_d103) (e2_orG_ok (k0 := 231) (a := 83) (j := 11) (n := 4) (lo := 2147483648) (hi := 2147483668) (as0 := as_d102) (Eb := Eb_d102) (f := f_d102) (res := rs_d102) (e2_orG_ok (k0 := 231) (a := 83) (j := 11) (n := 4) (lo := 2147483648) (hi := 2147483668) (as0 := as_d101) (Eb := Eb_d101) (f := f_d101) (res := rs_d101) (e2_orG_ok (k0 := 231) (a := 83) (j := 11) (n := 4) (lo := 2147483648) (hi := 2147483668) (as0 := as_d100) (Eb := Eb_d100) (f := f_d100) (res := rs_d100) (e2_orG_ok (k0 := 231) (a := 83) (j := 11) (n := 4) (lo := 2147483648) (hi := 2147483668) (as0 := as_d99) (Eb := Eb_d99) (f := f_d99) (res := rs_d99) (e2_orG_ok (k0 := 231) (a := 83) (j := 11) (n := 4) (lo := 2147483648) (hi := 2147483668) (as0 := as_d98) (Eb := Eb_d98) (f := f_d98) (res := rs_d98) (e2_orG_ok (k0 := 231) (a := 83) (j := 11) (n := 4) (lo := 2147483648) (hi := 2147483668) (as0 := as_d97) (Eb := Eb_d97) (f := f_d97) (res := rs_d97) (e2_orG_ok (k0 := 231) (a := 83) (j := 11) (n := 4) (lo := 2147483648) (hi := 2147483668) (as0 := as_d96) (Eb := Eb_d96) (f := f_d96) (res := rs_d96) (e2_orG_ok (k0 := 231) (a := 83) (j := 11) (n := 4) (lo := 2147483648) (hi := 2147483668) (as0 := as_d95) (Eb := Eb_d95) (f := f_d95) (res := rs_d95) (e2_orG_ok (k0 := 231) (a := 83) (j := 11) (n := 4) (lo := 2147483648) (hi := 2147483668) (as0 := as_d94) (Eb := Eb_d94) (f := f_d94) (res := rs_d94) (e2_cal_ok hen (e2_fa (cs_d44 hen l) (e2_fa (cs_d45 hen l) (e2_fa (cs_d46 hen l) (e2_fa (cs_d47 hen l) (e2_fa (cs_d48 hen l) (e2_fa (cs_d49 hen l) (e2_fa (cs_d50 hen l) (e2_fa (cs_d51 hen l) (e2_fa (cs_d52 hen l) (e2_fa (cs_d53 hen l) (e2_fa (cs_d54 hen l) (e2_fa (cs_d55 hen l) (e2_fa (cs_d56 hen l) (e2_fa (cs_d57 hen l) (e2_fa (cs_d58 hen l) (e2_fa (cs_d59 hen l) (e2_fa (cs_d60 hen l) (e2_fa (cs_d61 hen l) (e2_fa (cs_d62 hen l) (e2_fa (cs_d63 hen l) e2_fz)))))))))))))))))))) (e2_fa ein_216 (e2_fa ein_217 (e2_fa ein_227 e2_fz))) 1 d (by omega)) rfl (by decide +kernel) (fun M hM => (cs_d94 hen l).2 M hM d (by omega)) (e2_okGB_ok cog_d94)) rfl (by decide +kernel) (fun M hM => (cs_d95 hen l).2 M hM d (by omega)) (e2_okGB_ok cog_d95)) rfl (by decide +kernel) (fun M hM => (cs_d96 hen l).2 M hM d (by omega)) (e2_okGB_ok cog_d96)) rfl (by decide +kernel) (fun M hM => (cs_d97 hen l).2 M hM d (by omega)) (e2_okGB_ok cog_d97)) rfl (by decide +kernel) (fun M hM => (cs_d98 hen l).2 M hM d (by omega)) (e2_okGB_ok cog_d98)) rfl (by decide +kernel) (fun M hM => (cs_d99 hen l).2 M hM d (by omega)) (e2_okGB_ok cog_d99)) rfl (by decide +kernel) (fun M hM => (cs_d100 hen l).2 M hM d (by omega)) (e2_okGB_ok cog_d100)) rfl (by decide +kernel) (fun M hM => (cs_d101 hen l).2 M hM d (by omega)) (e2_okGB_ok cog_d101)) rfl (by decide +kernel) (fun M hM => (cs_d102 hen l).2 M hM d (by omega)) (e2_okGB_ok cog_d102)) rfl (by decide +kernel) (fun M hM => (cs_d103 hen l).2 M hM d (by omega)) (e2_okGB_ok cog_d103)) rfl (by decide +kernel) (fun M hM => (cs_d104 hen l).2 M hM d (by omega)) (e2_okGB_ok cog_d104)) rfl (by decide +kernel) (fun M hM => (cs_d105 hen l).2 M hM d (by omega)) (e2_okGB_ok cog_d105)) rfl (by decide +kernel) (fun M hM => (cs_d106 hen l).2 M hM d (by omega)) (e2_okGB_ok cog_d106)) rfl (by decide +kernel) (fun M hM => (cs_d107 hen l).2 M hM d (by omega)) (e2_okGB_ok cog_d107)) rfl (by decide +kernel) (fun M hM => (cs_d108 hen l).2 M hM d (by omega)) (e2_okGB_ok cog_d108)) rfl (by decide +kernel) (fun M hM => (cs_d109 hen l).2 M hM d (by omega)) (e2_okGB_ok cog_d109)) rfl (by decide +kernel) (fun M hM => (cs_d110 hen l).2 M hM d (by omega)) (e2_okGB_ok cog_d110)) rfl (by decide +kernel) (fun M hM => (cs_d111 hen l).2 M hM d (by omega)) (e2_okGB_ok cog_d111)) rfl (by decide +kernel) (fun M hM => (cs_d112 hen l).2 M hM d (by omega)) (e2_okGB_ok cog_d112)) rfl (by decide +kernel) (fun M hM => (cs_d113 hen l).2 M hM d (by omega)) (e2_okGB_ok cog_d113))) (by decide) co_d117 fun M d _ hC hcall p e R s m args below meth c Q D cA A ads r0 ha hl0 => ?_
  have EN_120 := e2_cutS_ok (bp := 120) (cuts := cu_d117_120) (e2_cuts_len hl0 (by decide +kernel)) (e2_cuts_ok hen ha hcall (hC [76, 192, 195]) (X := e2x_230) ex2_230 (e2_cuts_len hl0 (by decide +kernel)) ck_d117_u120)
  have L_27 : e2_gdM M p l e R s m args below meth c Q D cA A ads r0 49 al_d117_27 [] E_d117_27 h_d117_27 := by
    refine e2_indD (u := 4) (j := 2) (lo := 2147483647) (hi := 2147483667) hl0 (by decide) rfl rfl rfl ci_d117_27 cj_d117_27 ?_
    intro r_27 k_27 hk_27 hp_27 hs_27 hn_27
    have hl_27 : r_27.length ≤ 5 := hs_27.len rfl
    have ha_27 := ha.ext hp_27
    have L_28 : e2_gdM M p l e R s m args below meth c Q D cA A ads r_27 55 al_d117_28 [] E_d117_28 h_d117_28 := by
      refine e2_indL (u := 5) (j := 3) (lo := 2147483648) (hi := 2147483657) (b := 5) (dd := 0) hl_27 (by decide) rfl rfl (Or.inr ⟨rfl, rfl⟩) rfl ci_d117_28 cj_d117_28 ?_
      intro r_28 k_28 hk_28 hp_28 hs_28 hn_28
      have hl_28 : r_28.length ≤ 6 := hs_28.len rfl
      have ha_28 := ha_27.ext hp_28
      exact e2_fromM hen ha_28 hcall (e2_cutA_ok (e2_fa (fun al st E h hc => (hn_27 al st E h hc).ext hp_28) (e2_fa (fun al st E h hc => hn_28 al st E h hc) e2_fz))) (hC [76, 192, 195]) (X := e2x_230) ex2_230 55 ck_d117_28
    have EN_28 := e2_entL (u := 5) (j := 3) (lo := 2147483648) (hi := 2147483657) hl_27 rfl rfl rfl ci_d117_28 cj_d117_28 L_28
    exact e2_fromM hen ha_27 hcall (e2_cutA_ok (e2_fa (fun al st E h hc => (EN_120 al st E h hc).ext hp_27) (e2_fa (fun al st E h hc => EN_28 al st E h hc) e2_fz))) (hC [76, 192, 195]) (X := e2x_230) ex2_230 49 ck_d117_27
  have EN_27 := e2_entL (u := 4) (j := 2) (lo := 2147483647) (hi := 2147483667) hl0 rfl rfl rfl ci_d117_27 cj_d117_27 L_27
  have L_26 : e2_gdM M p l e R s m args below meth c Q D cA A ads r0 2 al_d117_26 [] E_d117_26 h_d117_26 := by
    refine e2_indL (u := 4) (j := 2) (lo := 2147483648) (hi := 2147483657) (b := 4) (dd := 0) hl0 (by decide) rfl rfl (Or.inr ⟨rfl, rfl⟩) rfl ci_d117_26 cj_d117_26 ?_
    intro r_26 k_26 hk_26 hp_26 hs_26 hn_26
    have hl_26 : r_26.length ≤ 5 := hs_26.len rfl
    have ha_26 := ha.ext hp_26
    exact e2_fromM hen ha_26 hcall (e2_cutA_ok (e2_fa (fun al st E h hc => hn_26 al st E h hc) (e2_fa (fun al st E h hc => (EN_27 al st E h hc).ext hp_26) e2_fz))) (hC [76, 192, 195]) (X := e2x_230) ex2_230 2 ck_d117_26
  have EN_26 := e2_entL (u := 4) (j := 2) (lo := 2147483648) (hi := 2147483657) hl0 rfl rfl rfl ci_d117_26 cj_d117_26 L_26
  exact e2_from hen ha hcall (e2_cutA_ok (e2_fa (fun al st E h hc => EN_26 al st E h hc) e2_fz)) (hC [76, 192, 195]) (X := e2x_230) ex2_230 0 ck_d117_e
/-! d118 X10_read -/
def as_d118 : List ev_V := [(2, 83, 0), (11, 0, 4294967295)]
def E_d118 : e2_E := [(2147483648, 2147583648, 0, 0), (2147483652, 2147483652, 1, 0), (2147483648, 2147483688, 2, 0), (2147483648, 2147483688, 3, 0)]
def dn1293 : e2_Q7 := (dn774, dn457)
def dn1294 : e2_Q8 := (dn477, dn1293)
noncomputable def f_d118 : ev_H := (dn1294 : e2_Q8)
noncomputable def q_d118_0 : ev_H := (dn1294 : e2_Q8)
noncomputable def rs_d118 : e2_Rs := [((11, 2147483647, 2147483668), q_d118_0)]
noncomputable def s_d118 : e2_Sm := (230, as_d118, E_d118, f_d118, rs_d118)
noncomputable def S_d118 : List e2_Sm := [s_d44, s_d45, s_d46, s_d47, s_d48, s_d49, s_d50, s_d51, s_d52, s_d53, s_d54, s_d55, s_d56, s_d57, s_d58, s_d59, s_d60, s_d61, s_d62, s_d63]
noncomputable def I_d118 : List e2_In := [(216, 1, e2x_216), (217, 1, e2x_217), (227, 2, e2x_227)]
set_option maxRecDepth 1000000 in
theorem co_d118 : e2_okSB E_d118.length as_d118 f_d118 rs_d118 = true := by decide +kernel
def al_d118_26 : List ev_V := [(2, 83, 0), (11, 0, 4294967295), (1, 4, 4294967296), (9, 0, 0), (9, 0, 0)]
def E_d118_26 : e2_E := [(2147483648, 2147583648, 0, 0), (2147483652, 2147483652, 1, 0), (2147483648, 2147483688, 2, 0), (2147483648, 2147483688, 3, 0), (2147483648, 2147483657, 4, 0)]
noncomputable def h_d118_26 : ev_H := (dn1294 : e2_Q8)
def al_d118_27 : List ev_V := [(2, 83, 0), (11, 0, 4294967295), (1, 4, 4294967296), (9, 0, 0), (9, 0, 0)]
def E_d118_27 : e2_E := [(2147483648, 2147583648, 0, 0), (2147483652, 2147483652, 1, 0), (2147483648, 2147483688, 2, 0), (2147483648, 2147483688, 3, 0), (2147483647, 2147483667, 4, 0)]
noncomputable def h_d118_27 : ev_H := (dn1294 : e2_Q8)
def al_d118_28 : List ev_V := [(2, 83, 0), (11, 0, 4294967295), (1, 4, 4294967296), (1, 5, 4294967296), (9, 0, 0)]
def E_d118_28 : e2_E := [(2147483648, 2147583648, 0, 0), (2147483652, 2147483652, 1, 0), (2147483648, 2147483688, 2, 0), (2147483648, 2147483688, 3, 0), (2147483648, 2147483667, 4, 0), (2147483648, 2147483657, 5, 0)]
noncomputable def h_d118_28 : ev_H := (dn1294 : e2_Q8)
def dn1295 : e2_Q7 := (dn774, dn1038)
def dn1296 : e2_Q8 := (dn477, dn1295)
noncomputable def h_d118_0 : ev_H := (dn1296 : e2_Q8)
def dn1297 : e2_Q7 := (dn774, dn1050)
def dn1298 : e2_Q8 := (dn477, dn1297)
noncomputable def h_d118_1 : ev_H := (dn1298 : e2_Q8)
def dn1299 : e2_Q7 := (dn774, dn1058)
def dn1300 : e2_Q8 := (dn477, dn1299)
noncomputable def h_d118_2 : ev_H := (dn1300 : e2_Q8)
def dn1301 : e2_Q7 := (dn774, dn1066)
def dn1302 : e2_Q8 := (dn477, dn1301)
noncomputable def h_d118_3 : ev_H := (dn1302 : e2_Q8)
def dn1303 : e2_Q7 := (dn774, dn1074)
def dn1304 : e2_Q8 := (dn477, dn1303)
noncomputable def h_d118_4 : ev_H := (dn1304 : e2_Q8)
def dn1305 : e2_Q7 := (dn774, dn1082)
def dn1306 : e2_Q8 := (dn477, dn1305)
noncomputable def h_d118_5 : ev_H := (dn1306 : e2_Q8)
def dn1307 : e2_Q7 := (dn774, dn1090)
def dn1308 : e2_Q8 := (dn477, dn1307)
noncomputable def h_d118_6 : ev_H := (dn1308 : e2_Q8)
def dn1309 : e2_Q7 := (dn774, dn1098)
def dn1310 : e2_Q8 := (dn477, dn1309)
noncomputable def h_d118_7 : ev_H := (dn1310 : e2_Q8)
def dn1311 : e2_Q7 := (dn774, dn1106)
def dn1312 : e2_Q8 := (dn477, dn1311)
noncomputable def h_d118_8 : ev_H := (dn1312 : e2_Q8)
def dn1313 : e2_Q7 := (dn774, dn1114)
def dn1314 : e2_Q8 := (dn477, dn1313)
noncomputable def h_d118_9 : ev_H := (dn1314 : e2_Q8)
def dn1315 : e2_Q7 := (dn774, dn1122)
def dn1316 : e2_Q8 := (dn477, dn1315)
noncomputable def h_d118_10 : ev_H := (dn1316 : e2_Q8)
def dn1317 : e2_Q7 := (dn774, dn1130)
def dn1318 : e2_Q8 := (dn477, dn1317)
noncomputable def h_d118_11 : ev_H := (dn1318 : e2_Q8)
def dn1319 : e2_Q7 := (dn774, dn1138)
def dn1320 : e2_Q8 := (dn477, dn1319)
noncomputable def h_d118_12 : ev_H := (dn1320 : e2_Q8)
def dn1321 : e2_Q7 := (dn774, dn1146)
def dn1322 : e2_Q8 := (dn477, dn1321)
noncomputable def h_d118_13 : ev_H := (dn1322 : e2_Q8)
def dn1323 : e2_Q7 := (dn774, dn1154)
def dn1324 : e2_Q8 := (dn477, dn1323)
noncomputable def h_d118_14 : ev_H := (dn1324 : e2_Q8)
def dn1325 : e2_Q7 := (dn774, dn1162)
def dn1326 : e2_Q8 := (dn477, dn1325)
noncomputable def h_d118_15 : ev_H := (dn1326 : e2_Q8)
def dn1327 : e2_Q7 := (dn774, dn1170)
def dn1328 : e2_Q8 := (dn477, dn1327)
noncomputable def h_d118_16 : ev_H := (dn1328 : e2_Q8)
def dn1329 : e2_Q7 := (dn774, dn1178)
def dn1330 : e2_Q8 := (dn477, dn1329)
noncomputable def h_d118_17 : ev_H := (dn1330 : e2_Q8)
def dn1331 : e2_Q7 := (dn774, dn1186)
def dn1332 : e2_Q8 := (dn477, dn1331)
noncomputable def h_d118_18 : ev_H := (dn1332 : e2_Q8)
def dn1333 : e2_Q7 := (dn774, dn1194)
def dn1334 : e2_Q8 := (dn477, dn1333)
noncomputable def h_d118_19 : ev_H := (dn1334 : e2_Q8)
noncomputable def h_d118_20 : ev_H := (dn1294 : e2_Q8)
def dn1335 : e2_Q7 := (dn774, dn1202)
def dn1336 : e2_Q8 := (dn477, dn1335)
noncomputable def h_d118_21 : ev_H := (dn1336 : e2_Q8)
noncomputable def h_d118_22 : ev_H := (dn1336 : e2_Q8)
noncomputable def h_d118_23 : ev_H := (dn1336 : e2_Q8)
noncomputable def h_d118_24 : ev_H := (dn1336 : e2_Q8)
noncomputable def h_d118_25 : ev_H := (dn1336 : e2_Q8)
noncomputable def cu_d118_120 : List e2_Cu := [([(2, 83, 0), (11, 0, 4294967295), (0, 0, 0), (0, 8, 0), (9, 0, 0)], [(2147483648, 2147583648, 0, 0), (2147483652, 2147483652, 1, 0), (2147483648, 2147483688, 2, 0), (2147483648, 2147483688, 3, 0)], h_d118_0),
  ([(2, 83, 0), (11, 0, 4294967295), (0, 1, 0), (11, 2147483648, 2147483656), (11, 2147483647, 2147483651)], [(2147483648, 2147583648, 0, 0), (2147483652, 2147483652, 1, 0), (2147483648, 2147483688, 2, 0), (2147483648, 2147483688, 3, 0)], h_d118_1),
  ([(2, 83, 0), (11, 0, 4294967295), (0, 2, 0), (11, 2147483648, 2147483656), (11, 2147483647, 2147483651)], [(2147483648, 2147583648, 0, 0), (2147483652, 2147483652, 1, 0), (2147483648, 2147483688, 2, 0), (2147483648, 2147483688, 3, 0)], h_d118_2),
  ([(2, 83, 0), (11, 0, 4294967295), (0, 3, 0), (11, 2147483648, 2147483656), (11, 2147483647, 2147483651)], [(2147483648, 2147583648, 0, 0), (2147483652, 2147483652, 1, 0), (2147483648, 2147483688, 2, 0), (2147483648, 2147483688, 3, 0)], h_d118_3),
  ([(2, 83, 0), (11, 0, 4294967295), (0, 4, 0), (11, 2147483648, 2147483656), (11, 2147483647, 2147483651)], [(2147483648, 2147583648, 0, 0), (2147483652, 2147483652, 1, 0), (2147483648, 2147483688, 2, 0), (2147483648, 2147483688, 3, 0)], h_d118_4),
  ([(2, 83, 0), (11, 0, 4294967295), (0, 5, 0), (11, 2147483648, 2147483656), (11, 2147483647, 2147483651)], [(2147483648, 2147583648, 0, 0), (2147483652, 2147483652, 1, 0), (2147483648, 2147483688, 2, 0), (2147483648, 2147483688, 3, 0)], h_d118_5),
  ([(2, 83, 0), (11, 0, 4294967295), (0, 6, 0), (11, 2147483648, 2147483656), (11, 2147483647, 2147483651)], [(2147483648, 2147583648, 0, 0), (2147483652, 2147483652, 1, 0), (2147483648, 2147483688, 2, 0), (2147483648, 2147483688, 3, 0)], h_d118_6),
  ([(2, 83, 0), (11, 0, 4294967295), (0, 7, 0), (11, 2147483648, 2147483656), (11, 2147483647, 2147483651)], [(2147483648, 2147583648, 0, 0), (2147483652, 2147483652, 1, 0), (2147483648, 2147483688, 2, 0), (2147483648, 2147483688, 3, 0)], h_d118_7),
  ([(2, 83, 0), (11, 0, 4294967295), (0, 8, 0), (11, 2147483648, 2147483656), (11, 2147483647, 2147483651)], [(2147483648, 2147583648, 0, 0), (2147483652, 2147483652, 1, 0), (2147483648, 2147483688, 2, 0), (2147483648, 2147483688, 3, 0)], h_d118_8),
  ([(2, 83, 0), (11, 0, 4294967295), (0, 9, 0), (11, 2147483648, 2147483656), (11, 2147483647, 2147483651)], [(2147483648, 2147583648, 0, 0), (2147483652, 2147483652, 1, 0), (2147483648, 2147483688, 2, 0), (2147483648, 2147483688, 3, 0)], h_d118_9),
  ([(2, 83, 0), (11, 0, 4294967295), (0, 10, 0), (11, 2147483648, 2147483656), (11, 2147483647, 2147483651)], [(2147483648, 2147583648, 0, 0), (2147483652, 2147483652, 1, 0), (2147483648, 2147483688, 2, 0), (2147483648, 2147483688, 3, 0)], h_d118_10),
  ([(2, 83, 0), (11, 0, 4294967295), (0, 11, 0), (11, 2147483648, 2147483656), (11, 2147483647, 2147483651)], [(2147483648, 2147583648, 0, 0), (2147483652, 2147483652, 1, 0), (2147483648, 2147483688, 2, 0), (2147483648, 2147483688, 3, 0)], h_d118_11),
  ([(2, 83, 0), (11, 0, 4294967295), (0, 12, 0), (11, 2147483648, 2147483656), (11, 2147483647, 2147483651)], [(2147483648, 2147583648, 0, 0), (2147483652, 2147483652, 1, 0), (2147483648, 2147483688, 2, 0), (2147483648, 2147483688, 3, 0)], h_d118_12),
  ([(2, 83, 0), (11, 0, 4294967295), (0, 13, 0), (11, 2147483648, 2147483656), (11, 2147483647, 2147483651)], [(2147483648, 2147583648, 0, 0), (2147483652, 2147483652, 1, 0), (2147483648, 2147483688, 2, 0), (2147483648, 2147483688, 3, 0)], h_d118_13),
  ([(2, 83, 0), (11, 0, 4294967295), (0, 14, 0), (11, 2147483648, 2147483656), (11, 2147483647, 2147483651)], [(2147483648, 2147583648, 0, 0), (2147483652, 2147483652, 1, 0), (2147483648, 2147483688, 2, 0), (2147483648, 2147483688, 3, 0)], h_d118_14),
  ([(2, 83, 0), (11, 0, 4294967295), (0, 15, 0), (11, 2147483648, 2147483656), (11, 2147483647, 2147483651)], [(2147483648, 2147583648, 0, 0), (2147483652, 2147483652, 1, 0), (2147483648, 2147483688, 2, 0), (2147483648, 2147483688, 3, 0)], h_d118_15),
  ([(2, 83, 0), (11, 0, 4294967295), (0, 16, 0), (11, 2147483648, 2147483656), (11, 2147483647, 2147483651)], [(2147483648, 2147583648, 0, 0), (2147483652, 2147483652, 1, 0), (2147483648, 2147483688, 2, 0), (2147483648, 2147483688, 3, 0)], h_d118_16),
  ([(2, 83, 0), (11, 0, 4294967295), (0, 17, 0), (11, 2147483648, 2147483656), (11, 2147483647, 2147483651)], [(2147483648, 2147583648, 0, 0), (2147483652, 2147483652, 1, 0), (2147483648, 2147483688, 2, 0), (2147483648, 2147483688, 3, 0)], h_d118_17),
  ([(2, 83, 0), (11, 0, 4294967295), (0, 18, 0), (11, 2147483648, 2147483656), (11, 2147483647, 2147483651)], [(2147483648, 2147583648, 0, 0), (2147483652, 2147483652, 1, 0), (2147483648, 2147483688, 2, 0), (2147483648, 2147483688, 3, 0)], h_d118_18),
  ([(2, 83, 0), (11, 0, 4294967295), (0, 19, 0), (11, 2147483648, 2147483656), (11, 2147483647, 2147483651)], [(2147483648, 2147583648, 0, 0), (2147483652, 2147483652, 1, 0), (2147483648, 2147483688, 2, 0), (2147483648, 2147483688, 3, 0)], h_d118_19),
  ([(2, 83, 0), (11, 0, 4294967295), (0, 20, 0), (11, 2147483648, 2147483656), (11, 2147483647, 2147483651)], [(2147483648, 2147583648, 0, 0), (2147483652, 2147483652, 1, 0), (2147483648, 2147483688, 2, 0), (2147483648, 2147483688, 3, 0)], h_d118_20),
  ([(2, 83, 0), (11, 0, 4294967295), (0, 21, 0), (11, 2147483648, 2147483651), (11, 2147483648, 2147483651)], [(2147483648, 2147583648, 0, 0), (2147483652, 2147483652, 1, 0), (2147483648, 2147483688, 2, 0), (2147483648, 2147483688, 3, 0)], h_d118_21),
  ([(2, 83, 0), (11, 0, 4294967295), (0, 22, 0), (11, 2147483648, 2147483651), (11, 2147483648, 2147483651)], [(2147483648, 2147583648, 0, 0), (2147483652, 2147483652, 1, 0), (2147483648, 2147483688, 2, 0), (2147483648, 2147483688, 3, 0)], h_d118_22),
  ([(2, 83, 0), (11, 0, 4294967295), (0, 23, 0), (11, 2147483648, 2147483651), (11, 2147483648, 2147483651)], [(2147483648, 2147583648, 0, 0), (2147483652, 2147483652, 1, 0), (2147483648, 2147483688, 2, 0), (2147483648, 2147483688, 3, 0)], h_d118_23),
  ([(2, 83, 0), (11, 0, 4294967295), (0, 24, 0), (11, 2147483648, 2147483651), (11, 2147483648, 2147483651)], [(2147483648, 2147583648, 0, 0), (2147483652, 2147483652, 1, 0), (2147483648, 2147483688, 2, 0), (2147483648, 2147483688, 3, 0)], h_d118_24),
  ([(2, 83, 0), (11, 0, 4294967295), (0, 25, 0), (11, 2147483648, 2147483651), (11, 2147483648, 2147483651)], [(2147483648, 2147583648, 0, 0), (2147483652, 2147483652, 1, 0), (2147483648, 2147483688, 2, 0), (2147483648, 2147483688, 3, 0)], h_d118_25)]
noncomputable def cl_d118_e : List (Nat × e2_S) := [(2, e2_cutL (al_d118_26.set 2 (11, 2147483648, 2147483657)) 4 (E_d118_26.take 4) h_d118_26)]
set_option maxRecDepth 1000000 in
theorem ck_d118_e : e2_run (e2_orG 231 83 11 4 2147483648 2147483668 as_d113 Eb_d113 f_d113 rs_d113 (e2_orG 231 83 11 4 2147483648 2147483668 as_d112 Eb_d112 f_d112 rs_d112 (e2_orG 231 83 11 4 2147483648 2147483668 as_d111 Eb_d111 f_d111 rs_d111 (e2_orG 231 83 11 4 2147483648 2147483668 as_d110 Eb_d110 f_d110 rs_d110 (e2_orG 231 83 11 4 2147483648 2147483668 as_d109 Eb_d109 f_d109 rs_d109 (e2_orG 231 83 11 4 2147483648 2147483668 as_d108 Eb_d108 f_d108 rs_d108 (e2_orG 231 83 11 4 2147483648 2147483668 as_d107 Eb_d107 f_d107 rs_d107 (e2_orG 231 83 11 4 2147483648 2147483668 as_d106 Eb_d106 f_d106 rs_d106 (e2_orG 231 83 11 4 2147483648 2147483668 as_d105 Eb_d105 f_d105 rs_d105 (e2_orG 231 83 11 4 2147483648 2147483668 as_d104 Eb_d104 f_d104 rs_d104 (e2_orG 231 83 11 4 2147483648 2147483668 as_d103 Eb_d103 f_d103 rs_d103 (e2_orG 231 83 11 4 2147483648 2147483668 as_d102 Eb_d102 f_d102 rs_d102 (e2_orG 231 83 11 4 2147483648 2147483668 as_d101 Eb_d101 f_d101 rs_d101 (e2_orG 231 83 11 4 2147483648 2147483668 as_d100 Eb_d100 f_d100 rs_d100 (e2_orG 231 83 11 4 2147483648 2147483668 as_d99 Eb_d99 f_d99 rs_d99 (e2_orG 231 83 11 4 2147483648 2147483668 as_d98 Eb_d98 f_d98 rs_d98 (e2_orG 231 83 11 4 2147483648 2147483668 as_d97 Eb_d97 f_d97 rs_d97 (e2_orG 231 83 11 4 2147483648 2147483668 as_d96 Eb_d96 f_d96 rs_d96 (e2_orG 231 83 11 4 2147483648 2147483668 as_d95 Eb_d95 f_d95 rs_d95 (e2_orG 231 83 11 4 2147483648 2147483668 as_d94 Eb_d94 f_d94 rs_d94 (e2_cal S_d118 I_d118 4000 1))))))))))))))))))))) (e2_fin rs_d118) e2x_230 (e2_bpL cl_d118_e) (e2_cutA cl_d118_e) 4000 (e2_seek e2x_230 0) (e2_al 5 as_d118) [] E_d118 f_d118 = true := by decide +kernel
noncomputable def cl_d118_26 : List (Nat × e2_S) := [(2, e2_cutL (al_d118_26.set 2 (13, 12, 2147483657)) 4 (E_d118_26.take 4) h_d118_26),
  (49, e2_cutL (al_d118_27.set 2 (11, 2147483647, 2147483667)) 4 (E_d118_27.take 4) h_d118_27)]
set_option maxRecDepth 1000000 in
theorem ck_d118_26 : e2_runM (e2_orG 231 83 11 4 2147483648 2147483668 as_d113 Eb_d113 f_d113 rs_d113 (e2_orG 231 83 11 4 2147483648 2147483668 as_d112 Eb_d112 f_d112 rs_d112 (e2_orG 231 83 11 4 2147483648 2147483668 as_d111 Eb_d111 f_d111 rs_d111 (e2_orG 231 83 11 4 2147483648 2147483668 as_d110 Eb_d110 f_d110 rs_d110 (e2_orG 231 83 11 4 2147483648 2147483668 as_d109 Eb_d109 f_d109 rs_d109 (e2_orG 231 83 11 4 2147483648 2147483668 as_d108 Eb_d108 f_d108 rs_d108 (e2_orG 231 83 11 4 2147483648 2147483668 as_d107 Eb_d107 f_d107 rs_d107 (e2_orG 231 83 11 4 2147483648 2147483668 as_d106 Eb_d106 f_d106 rs_d106 (e2_orG 231 83 11 4 2147483648 2147483668 as_d105 Eb_d105 f_d105 rs_d105 (e2_orG 231 83 11 4 2147483648 2147483668 as_d104 Eb_d104 f_d104 rs_d104 (e2_orG 231 83 11 4 2147483648 2147483668 as_d103 Eb_d103 f_d103 rs_d103 (e2_orG 231 83 11 4 2147483648 2147483668 as_d102 Eb_d102 f_d102 rs_d102 (e2_orG 231 83 11 4 2147483648 2147483668 as_d101 Eb_d101 f_d101 rs_d101 (e2_orG 231 83 11 4 2147483648 2147483668 as_d100 Eb_d100 f_d100 rs_d100 (e2_orG 231 83 11 4 2147483648 2147483668 as_d99 Eb_d99 f_d99 rs_d99 (e2_orG 231 83 11 4 2147483648 2147483668 as_d98 Eb_d98 f_d98 rs_d98 (e2_orG 231 83 11 4 2147483648 2147483668 as_d97 Eb_d97 f_d97 rs_d97 (e2_orG 231 83 11 4 2147483648 2147483668 as_d96 Eb_d96 f_d96 rs_d96 (e2_orG 231 83 11 4 2147483648 2147483668 as_d95 Eb_d95 f_d95 rs_d95 (e2_orG 231 83 11 4 2147483648 2147483668 as_d94 Eb_d94 f_d94 rs_d94 (e2_cal S_d118 I_d118 4000 1))))))))))))))))))))) (e2_fin rs_d118) e2x_230 (e2_bpL cl_d118_26) (e2_cutA cl_d118_26) 4000 (e2_seek e2x_230 2) al_d118_26 [] E_d118_26 h_d118_26 = true := by decide +kernel
set_option maxRecDepth 1000000 in
theorem ci_d118_26 : e2_idl 4 (al_d118_26.set 2 (9, 0, 0)) = true := by decide +kernel
set_option maxRecDepth 1000000 in
theorem cj_d118_26 : e2_idh 4 8 h_d118_26 = true := by decide +kernel
noncomputable def cl_d118_27 : List (Nat × e2_S) := [(120, e2_cutS cu_d118_120),
  (55, e2_cutL (al_d118_28.set 3 (11, 2147483648, 2147483657)) 5 (E_d118_28.take 5) h_d118_28)]
set_option maxRecDepth 1000000 in
theorem ck_d118_27 : e2_runM (e2_orG 231 83 11 4 2147483648 2147483668 as_d113 Eb_d113 f_d113 rs_d113 (e2_orG 231 83 11 4 2147483648 2147483668 as_d112 Eb_d112 f_d112 rs_d112 (e2_orG 231 83 11 4 2147483648 2147483668 as_d111 Eb_d111 f_d111 rs_d111 (e2_orG 231 83 11 4 2147483648 2147483668 as_d110 Eb_d110 f_d110 rs_d110 (e2_orG 231 83 11 4 2147483648 2147483668 as_d109 Eb_d109 f_d109 rs_d109 (e2_orG 231 83 11 4 2147483648 2147483668 as_d108 Eb_d108 f_d108 rs_d108 (e2_orG 231 83 11 4 2147483648 2147483668 as_d107 Eb_d107 f_d107 rs_d107 (e2_orG 231 83 11 4 2147483648 2147483668 as_d106 Eb_d106 f_d106 rs_d106 (e2_orG 231 83 11 4 2147483648 2147483668 as_d105 Eb_d105 f_d105 rs_d105 (e2_orG 231 83 11 4 2147483648 2147483668 as_d104 Eb_d104 f_d104 rs_d104 (e2_orG 231 83 11 4 2147483648 2147483668 as_d103 Eb_d103 f_d103 rs_d103 (e2_orG 231 83 11 4 2147483648 2147483668 as_d102 Eb_d102 f_d102 rs_d102 (e2_orG 231 83 11 4 2147483648 2147483668 as_d101 Eb_d101 f_d101 rs_d101 (e2_orG 231 83 11 4 2147483648 2147483668 as_d100 Eb_d100 f_d100 rs_d100 (e2_orG 231 83 11 4 2147483648 2147483668 as_d99 Eb_d99 f_d99 rs_d99 (e2_orG 231 83 11 4 2147483648 2147483668 as_d98 Eb_d98 f_d98 rs_d98 (e2_orG 231 83 11 4 2147483648 2147483668 as_d97 Eb_d97 f_d97 rs_d97 (e2_orG 231 83 11 4 2147483648 2147483668 as_d96 Eb_d96 f_d96 rs_d96 (e2_orG 231 83 11 4 2147483648 2147483668 as_d95 Eb_d95 f_d95 rs_d95 (e2_orG 231 83 11 4 2147483648 2147483668 as_d94 Eb_d94 f_d94 rs_d94 (e2_cal S_d118 I_d118 4000 1))))))))))))))))))))) (e2_fin rs_d118) e2x_230 (e2_bpL cl_d118_27) (e2_cutA cl_d118_27) 4000 (e2_seek e2x_230 49) al_d118_27 [] E_d118_27 h_d118_27 = true := by decide +kernel
set_option maxRecDepth 1000000 in
theorem ci_d118_27 : e2_idl 4 (al_d118_27.set 2 (9, 0, 0)) = true := by decide +kernel
set_option maxRecDepth 1000000 in
theorem cj_d118_27 : e2_idh 4 8 h_d118_27 = true := by decide +kernel
noncomputable def cl_d118_28 : List (Nat × e2_S) := [(49, e2_cutL (al_d118_27.set 2 (12, 12, 2147483647)) 4 (E_d118_27.take 4) h_d118_27),
  (55, e2_cutL (al_d118_28.set 3 (13, 13, 2147483657)) 5 (E_d118_28.take 5) h_d118_28)]
set_option maxRecDepth 1000000 in
theorem ck_d118_28 : e2_runM (e2_orG 231 83 11 4 2147483648 2147483668 as_d113 Eb_d113 f_d113 rs_d113 (e2_orG 231 83 11 4 2147483648 2147483668 as_d112 Eb_d112 f_d112 rs_d112 (e2_orG 231 83 11 4 2147483648 2147483668 as_d111 Eb_d111 f_d111 rs_d111 (e2_orG 231 83 11 4 2147483648 2147483668 as_d110 Eb_d110 f_d110 rs_d110 (e2_orG 231 83 11 4 2147483648 2147483668 as_d109 Eb_d109 f_d109 rs_d109 (e2_orG 231 83 11 4 2147483648 2147483668 as_d108 Eb_d108 f_d108 rs_d108 (e2_orG 231 83 11 4 2147483648 2147483668 as_d107 Eb_d107 f_d107 rs_d107 (e2_orG 231 83 11 4 2147483648 2147483668 as_d106 Eb_d106 f_d106 rs_d106 (e2_orG 231 83 11 4 2147483648 2147483668 as_d105 Eb_d105 f_d105 rs_d105 (e2_orG 231 83 11 4 2147483648 2147483668 as_d104 Eb_d104 f_d104 rs_d104 (e2_orG 231 83 11 4 2147483648 2147483668 as_d103 Eb_d103 f_d103 rs_d103 (e2_orG 231 83 11 4 2147483648 2147483668 as_d102 Eb_d102 f_d102 rs_d102 (e2_orG 231 83 11 4 2147483648 2147483668 as_d101 Eb_d101 f_d101 rs_d101 (e2_orG 231 83 11 4 2147483648 2147483668 as_d100 Eb_d100 f_d100 rs_d100 (e2_orG 231 83 11 4 2147483648 2147483668 as_d99 Eb_d99 f_d99 rs_d99 (e2_orG 231 83 11 4 2147483648 2147483668 as_d98 Eb_d98 f_d98 rs_d98 (e2_orG 231 83 11 4 2147483648 2147483668 as_d97 Eb_d97 f_d97 rs_d97 (e2_orG 231 83 11 4 2147483648 2147483668 as_d96 Eb_d96 f_d96 rs_d96 (e2_orG 231 83 11 4 2147483648 2147483668 as_d95 Eb_d95 f_d95 rs_d95 (e2_orG 231 83 11 4 2147483648 2147483668 as_d94 Eb_d94 f_d94 rs_d94 (e2_cal S_d118 I_d118 4000 1))))))))))))))))))))) (e2_fin rs_d118) e2x_230 (e2_bpL cl_d118_28) (e2_cutA cl_d118_28) 4000 (e2_seek e2x_230 55) al_d118_28 [] E_d118_28 h_d118_28 = true := by decide +kernel
set_option maxRecDepth 1000000 in
theorem ci_d118_28 : e2_idl 5 (al_d118_28.set 3 (9, 0, 0)) = true := by decide +kernel
set_option maxRecDepth 1000000 in
theorem cj_d118_28 : e2_idh 5 8 h_d118_28 = true := by decide +kernel
set_option maxRecDepth 1000000 in
theorem ck_d118_u120 : e2_cutsB (e2_orG 231 83 11 4 2147483648 2147483668 as_d113 Eb_d113 f_d113 rs_d113 (e2_orG 231 83 11 4 2147483648 2147483668 as_d112 Eb_d112 f_d112 rs_d112 (e2_orG 231 83 11 4 2147483648 2147483668 as_d111 Eb_d111 f_d111 rs_d111 (e2_orG 231 83 11 4 2147483648 2147483668 as_d110 Eb_d110 f_d110 rs_d110 (e2_orG 231 83 11 4 2147483648 2147483668 as_d109 Eb_d109 f_d109 rs_d109 (e2_orG 231 83 11 4 2147483648 2147483668 as_d108 Eb_d108 f_d108 rs_d108 (e2_orG 231 83 11 4 2147483648 2147483668 as_d107 Eb_d107 f_d107 rs_d107 (e2_orG 231 83 11 4 2147483648 2147483668 as_d106 Eb_d106 f_d106 rs_d106 (e2_orG 231 83 11 4 2147483648 2147483668 as_d105 Eb_d105 f_d105 rs_d105 (e2_orG 231 83 11 4 2147483648 2147483668 as_d104 Eb_d104 f_d104 rs_d104 (e2_orG 231 83 11 4 2147483648 2147483668 as_d103 Eb_d103 f_d103 rs_d103 (e2_orG 231 83 11 4 2147483648 2147483668 as_d102 Eb_d102 f_d102 rs_d102 (e2_orG 231 83 11 4 2147483648 2147483668 as_d101 Eb_d101 f_d101 rs_d101 (e2_orG 231 83 11 4 2147483648 2147483668 as_d100 Eb_d100 f_d100 rs_d100 (e2_orG 231 83 11 4 2147483648 2147483668 as_d99 Eb_d99 f_d99 rs_d99 (e2_orG 231 83 11 4 2147483648 2147483668 as_d98 Eb_d98 f_d98 rs_d98 (e2_orG 231 83 11 4 2147483648 2147483668 as_d97 Eb_d97 f_d97 rs_d97 (e2_orG 231 83 11 4 2147483648 2147483668 as_d96 Eb_d96 f_d96 rs_d96 (e2_orG 231 83 11 4 2147483648 2147483668 as_d95 Eb_d95 f_d95 rs_d95 (e2_orG 231 83 11 4 2147483648 2147483668 as_d94 Eb_d94 f_d94 rs_d94 (e2_cal S_d118 I_d118 4000 1))))))))))))))))))))) (e2_fin rs_d118) e2x_230 120 4000 cu_d118_120 = true := by decide +kernel
set_option maxRecDepth 1000000 in
theorem cs_d118 (hen : en_ok) (l : Launch) : e2_smOk l 5 s_d118 := by
  refine e2_conC (H := 4) (C := evd_230) (call := (e2_orG 231 83 11 4 2147483648 2147483668 as_d113 Eb_d113 f_d113 rs_d113 (e2_orG 231 83 11 4 2147483648 2147483668 as_d112 Eb_d112 f_d112 rs_d112 (e2_orG 231 83 11 4 2147483648 2147483668 as_d111 Eb_d111 f_d111 rs_d111 (e2_orG 231 83 11 4 2147483648 2147483668 as_d110 Eb_d110 f_d110 rs_d110 (e2_orG 231 83 11 4 2147483648 2147483668 as_d109 Eb_d109 f_d109 rs_d109 (e2_orG 231 83 11 4 2147483648 2147483668 as_d108 Eb_d108 f_d108 rs_d108 (e2_orG 231 83 11 4 2147483648 2147483668 as_d107 Eb_d107 f_d107 rs_d107 (e2_orG 231 83 11 4 2147483648 2147483668 as_d106 Eb_d106 f_d106 rs_d106 (e2_orG 231 83 11 4 2147483648 2147483668 as_d105 Eb_d105 f_d105 rs_d105 (e2_orG 231 83 11 4 2147483648 2147483668 as_d104 Eb_d104 f_d104 rs_d104 (e2_orG 231 83 11 4 2147483648 2147483668 as_d103 Eb_d103 f_d103 rs_d103 (e2_orG 231 83 11 4 2147483648 2147483668 as_d102 Eb_d102 f_d102 rs_d102 (e2_orG 231 83 11 4 2147483648 2147483668 as_d101 Eb_d101 f_d101 rs_d101 (e2_orG 231 83 11 4 2147483648 2147483668 as_d100 Eb_d100 f_d100 rs_d100 (e2_orG 231 83 11 4 2147483648 2147483668 as_d99 Eb_d99 f_d99 rs_d99 (e2_orG 231 83 11 4 2147483648 2147483668 as_d98 Eb_d98 f_d98 rs_d98 (e2_orG 231 83 11 4 2147483648 2147483668 as_d97 Eb_d97 f_d97 rs_d97 (e2_orG 231 83 11 4 2147483648 2147483668 as_d96 Eb_d96 f_d96 rs_d96 (e2_orG 231 83 11 4 2147483648 2147483668 as_d95 Eb_d95 f_d95 rs_d95 (e2_orG 231 83 11 4 2147483648 2147483668 as_d94 Eb_d94 f_d94 rs_d94 (e2_cal S_d118 I_d118 4000 1)))))))))))))))))))))) ei_230 (fun d hd => (e2_orG_ok (k0 := 231) (a := 83) (j := 11) (n := 4) (lo := 2147483648) (hi := 2147483668) (as0 := as_d113) (Eb := Eb_d113) (f := f_d113) (res := rs_d113) (e2_orG_ok (k0 := 231) (a := 83) (j := 11) (n := 4) (lo := 2147483648) (hi := 2147483668) (as0 := as_d112) (Eb := Eb_d112) (f := f_d112) (res := rs_d112) (e2_orG_ok (k0 := 231) (a := 83) (j := 11) (n := 4) (lo := 2147483648) (hi := 2147483668) (as0 := as_d111) (Eb := Eb_d111) (f := f_d111) (res := rs_d111) (e2_orG_ok (k0 := 231) (a := 83) (j := 11) (n := 4) (lo := 2147483648) (hi := 2147483668) (as0 := as_d110) (Eb := Eb_d110) (f := f_d110) (res := rs_d110) (e2_orG_ok (k0 := 231) (a := 83) (j := 11) (n := 4) (lo := 2147483648) (hi := 2147483668) (as0 := as_d109) (Eb := Eb_d109) (f := f_d109) (res := rs_d109) (e2_orG_ok (k0 := 231) (a := 83) (j := 11) (n := 4) (lo := 2147483648) (hi := 2147483668) (as0 := as_d108) (Eb := Eb_d108) (f := f_d108) (res := rs_d108) (e2_orG_ok (k0 := 231) (a := 83) (j := 11) (n := 4) (lo := 2147483648) (hi := 2147483668) (as0 := as_d107) (Eb := Eb_d107) (f := f_d107) (res := rs_d107) (e2_orG_ok (k0 := 231) (a := 83) (j := 11) (n := 4) (lo := 2147483648) (hi := 2147483668) (as0 := as_d106) (Eb := Eb_d106) (f := f_d106) (res := rs_d106) (e2_orG_ok (k0 := 231) (a := 83) (j := 11) (n := 4) (lo := 2147483648) (hi := 2147483668) (as0 := as_d105) (Eb := Eb_d105) (f := f_d105) (res := rs_d105) (e2_orG_ok (k0 := 231) (a := 83) (j := 11) (n := 4) (lo := 2147483648) (hi := 2147483668) (as0 := as_d104) (Eb := Eb_d104) (f := f_d104) (res := rs_d104) (e2_orG_ok (k0 := 231) (a := 83) (j := 11) (n := 4) (lo := 2147483648) (hi := 2147483668) (as0 := as_d103) (Eb := Eb_d103) (f := f_d103) (res := rs_d103) (e2_orG_ok (k0 := 231) (a := 83) (j := 11) (n := 4) (lo := 2147483648) (hi := 2147483668) (as0 := as_d102) (Eb := Eb_d102) (f := f_d102) (res := rs_d102) (e2_orG_ok (k0 := 231) (a := 83) (j := 11) (n := 4) (lo := 2147483648) (hi := 2147483668) (as0 := as_d101) (Eb := Eb_d101) (f := f_d101) (res := rs_d101) (e2_orG_ok (k0 := 231) (a := 83) (j := 11) (n := 4) (lo := 2147483648) (hi := 2147483668) (as0 := as_d100) (Eb := Eb_d100) (f := f_d100) (res := rs_d100) (e2_orG_ok (k0 := 231) (a := 83) (j := 11) (n := 4) (lo := 2147483648) (hi := 2147483668) (as0 := as_d99) (Eb := Eb_d99) (f := f_d99) (res := rs_d99) (e2_orG_ok (k0 := 231) (a := 83) (j := 11) (n := 4) (lo := 2147483648) (hi := 2147483668) (as0 := as_d98) (Eb := Eb_d98) (f := f_d98) (res := rs_d98) (e2_orG_ok (k0 := 231) (a := 83) (j := 11) (n := 4) (lo := 2147483648) (hi := 2147483668) (as0 := as_d97) (Eb := Eb_d97) (f := f_d97) (res := rs_d97) (e2_orG_ok (k0 := 231) (a := 83) (j := 11) (n := 4) (lo := 2147483648) (hi := 2147483668) (as0 := as_d96) (Eb := Eb_d96) (f := f_d96) (res := rs_d96) (e2_orG_ok (k0 := 231) (a := 83) (j := 11) (n := 4) (lo := 2147483648) (hi := 2147483668) (as0 := as_d95) (Eb := Eb_d95) (f := f_d95) (res := rs_d95) (e2_orG_ok (k0 := 231) (a := 83) (j := 11) (n := 4) (lo := 2147483648) (hi := 2147483668) (as0 := as_d94) (Eb := Eb_d94) (f := f_d94) (res := rs_d94) (e2_cal_ok hen (e2_fa (cs_d44 hen l) (e2_fa (cs_d45 hen l) (e2_fa (cs_d46 hen l) (e2_fa (cs_d47 hen l) (e2_fa (cs_d48 hen l) (e2_fa (cs_d49 hen l) (e2_fa (cs_d50 hen l) (e2_fa (cs_d51 hen l) (e2_fa (cs_d52 hen l) (e2_fa (cs_d53 hen l) (e2_fa (cs_d54 hen l) (e2_fa (cs_d55 hen l) (e2_fa (cs_d56 hen l) (e2_fa (cs_d57 hen l) (e2_fa (cs_d58 hen l) (e2_fa (cs_d59 hen l) (e2_fa (cs_d60 hen l) (e2_fa (cs_d61 hen l) (e2_fa (cs_d62 hen l) (e2_fa (cs_d63 hen l) e2_fz)))))))))))))))))))) (e2_fa ein_216 (e2_fa ein_217 (e2_fa ein_227 e2_fz))) 1 d (by omega)) rfl (by decide +kernel) (fun M hM => (cs_d94 hen l).2 M hM d (by omega)) (e2_okGB_ok cog_d94)) rfl (by decide +kernel) (fun M hM => (cs_d95 hen l).2 M hM d (by omega)) (e2_okGB_ok cog_d95)) rfl (by decide +kernel) (fun M hM => (cs_d96 hen l).2 M hM d (by omega)) (e2_okGB_ok cog_d96)) rfl (by decide +kernel) (fun M hM => (cs_d97 hen l).2 M hM d (by omega)) (e2_okGB_ok cog_d97)) rfl (by decide +kernel) (fun M hM => (cs_d98 hen l).2 M hM d (by omega)) (e2_okGB_ok cog_d98)) rfl (by decide +kernel) (fun M hM => (cs_d99 hen l).2 M hM d (by omega)) (e2_okGB_ok cog_d99)) rfl (by decide +kernel) (fun M hM => (cs_d100 hen l).2 M hM d (by omega)) (e2_okGB_ok cog_d100)) rfl (by decide +kernel) (fun M hM => (cs_d101 hen l).2 M hM d (by omega)) (e2_okGB_ok cog_d101)) rfl (by decide +kernel) (fun M hM => (cs_d102 hen l).2 M hM d (by omega)) (e2_okGB_ok cog_d102)) rfl (by decide +kernel) (fun M hM => (cs_d103 hen l).2 M hM d (by omega)) (e2_okGB_ok cog_d103)) rfl (by decide +kernel) (fun M hM => (cs_d104 hen l).2 M hM d (by omega)) (e2_okGB_ok cog_d104)) rfl (by decide +kernel) (fun M hM => (cs_d105 hen l).2 M hM d (by omega)) (e2_okGB_ok cog_d105)) rfl (by decide +kernel) (fun M hM => (cs_d106 hen l).2 M hM d (by omega)) (e2_okGB_ok cog_d106)) rfl (by decide +kernel) (fun M hM => (cs_d107 hen l).2 M hM d (by omega)) (e2_okGB_ok cog_d107)) rfl (by decide +kernel) (fun M hM => (cs_d108 hen l).2 M hM d (by omega)) (e2_okGB_ok cog_d108)) rfl (by decide +kernel) (fun M hM => (cs_d109 hen l).2 M hM d (by omega)) (e2_okGB_ok cog_d109)) rfl (by decide +kernel) (fun M hM => (cs_d110 hen l).2 M hM d (by omega)) (e2_okGB_ok cog_d110)) rfl (by decide +kernel) (fun M hM => (cs_d111 hen l).2 M hM d (by omega)) (e2_okGB_ok cog_d111)) rfl (by decide +kernel) (fun M hM => (cs_d112 hen l).2 M hM d (by omega)) (e2_okGB_ok cog_d112)) rfl (by decide +kernel) (fun M hM => (cs_d113 hen l).2 M hM d (by omega)) (e2_okGB_ok cog_d113))) (by decide) co_d118 fun M d _ hC hcall p e R s m args below meth c Q D cA A ads r0 ha hl0 => ?_
  have EN_120 := e2_cutS_ok (bp := 120) (cuts := cu_d118_120) (e2_cuts_len hl0 (by decide +kernel)) (e2_cuts_ok hen ha hcall (hC [76, 192, 195]) (X := e2x_230) ex2_230 (e2_cuts_len hl0 (by decide +kernel)) ck_d118_u120)
  have L_27 : e2_gdM M p l e R s m args below meth c Q D cA A ads r0 49 al_d118_27 [] E_d118_27 h_d118_27 := by
    refine e2_indD (u := 4) (j := 2) (lo := 2147483647) (hi := 2147483667) hl0 (by decide) rfl rfl rfl ci_d118_27 cj_d118_27 ?_
    intro r_27 k_27 hk_27 hp_27 hs_27 hn_27
    have hl_27 : r_27.length ≤ 5 := hs_27.len rfl
    have ha_27 := ha.ext hp_27
    have L_28 : e2_gdM M p l e R s m args below meth c Q D cA A ads r_27 55 al_d118_28 [] E_d118_28 h_d118_28 := by
      refine e2_indL (u := 5) (j := 3) (lo := 2147483648) (hi := 2147483657) (b := 5) (dd := 0) hl_27 (by decide) rfl rfl (Or.inr ⟨rfl, rfl⟩) rfl ci_d118_28 cj_d118_28 ?_
      intro r_28 k_28 hk_28 hp_28 hs_28 hn_28
      have hl_28 : r_28.length ≤ 6 := hs_28.len rfl
      have ha_28 := ha_27.ext hp_28
      exact e2_fromM hen ha_28 hcall (e2_cutA_ok (e2_fa (fun al st E h hc => (hn_27 al st E h hc).ext hp_28) (e2_fa (fun al st E h hc => hn_28 al st E h hc) e2_fz))) (hC [76, 192, 195]) (X := e2x_230) ex2_230 55 ck_d118_28
    have EN_28 := e2_entL (u := 5) (j := 3) (lo := 2147483648) (hi := 2147483657) hl_27 rfl rfl rfl ci_d118_28 cj_d118_28 L_28
    exact e2_fromM hen ha_27 hcall (e2_cutA_ok (e2_fa (fun al st E h hc => (EN_120 al st E h hc).ext hp_27) (e2_fa (fun al st E h hc => EN_28 al st E h hc) e2_fz))) (hC [76, 192, 195]) (X := e2x_230) ex2_230 49 ck_d118_27
  have EN_27 := e2_entL (u := 4) (j := 2) (lo := 2147483647) (hi := 2147483667) hl0 rfl rfl rfl ci_d118_27 cj_d118_27 L_27
  have L_26 : e2_gdM M p l e R s m args below meth c Q D cA A ads r0 2 al_d118_26 [] E_d118_26 h_d118_26 := by
    refine e2_indL (u := 4) (j := 2) (lo := 2147483648) (hi := 2147483657) (b := 4) (dd := 0) hl0 (by decide) rfl rfl (Or.inr ⟨rfl, rfl⟩) rfl ci_d118_26 cj_d118_26 ?_
    intro r_26 k_26 hk_26 hp_26 hs_26 hn_26
    have hl_26 : r_26.length ≤ 5 := hs_26.len rfl
    have ha_26 := ha.ext hp_26
    exact e2_fromM hen ha_26 hcall (e2_cutA_ok (e2_fa (fun al st E h hc => hn_26 al st E h hc) (e2_fa (fun al st E h hc => (EN_27 al st E h hc).ext hp_26) e2_fz))) (hC [76, 192, 195]) (X := e2x_230) ex2_230 2 ck_d118_26
  have EN_26 := e2_entL (u := 4) (j := 2) (lo := 2147483648) (hi := 2147483657) hl0 rfl rfl rfl ci_d118_26 cj_d118_26 L_26
  exact e2_from hen ha hcall (e2_cutA_ok (e2_fa (fun al st E h hc => EN_26 al st E h hc) e2_fz)) (hC [76, 192, 195]) (X := e2x_230) ex2_230 0 ck_d118_e
/-! d119 X10_read -/
def as_d119 : List ev_V := [(2, 83, 0), (11, 0, 4294967295)]
def E_d119 : e2_E := [(2147483648, 2147583648, 0, 0), (2147483653, 2147483653, 1, 0), (2147483648, 2147483688, 2, 0), (2147483648, 2147483688, 3, 0)]
def dn1337 : e2_Q7 := (dn824, dn457)
def dn1338 : e2_Q8 := (dn477, dn1337)
noncomputable def f_d119 : ev_H := (dn1338 : e2_Q8)
noncomputable def q_d119_0 : ev_H := (dn1338 : e2_Q8)
noncomputable def rs_d119 : e2_Rs := [((11, 2147483647, 2147483668), q_d119_0)]
noncomputable def s_d119 : e2_Sm := (230, as_d119, E_d119, f_d119, rs_d119)
noncomputable def S_d119 : List e2_Sm := [s_d44, s_d45, s_d46, s_d47, s_d48, s_d49, s_d50, s_d51, s_d52, s_d53, s_d54, s_d55, s_d56, s_d57, s_d58, s_d59, s_d60, s_d61, s_d62, s_d63]
noncomputable def I_d119 : List e2_In := [(216, 1, e2x_216), (217, 1, e2x_217), (227, 2, e2x_227)]
set_option maxRecDepth 1000000 in
theorem co_d119 : e2_okSB E_d119.length as_d119 f_d119 rs_d119 = true := by decide +kernel
def al_d119_26 : List ev_V := [(2, 83, 0), (11, 0, 4294967295), (1, 4, 4294967296), (9, 0, 0), (9, 0, 0)]
def E_d119_26 : e2_E := [(2147483648, 2147583648, 0, 0), (2147483653, 2147483653, 1, 0), (2147483648, 2147483688, 2, 0), (2147483648, 2147483688, 3, 0), (2147483648, 2147483657, 4, 0)]
noncomputable def h_d119_26 : ev_H := (dn1338 : e2_Q8)
def al_d119_27 : List ev_V := [(2, 83, 0), (11, 0, 4294967295), (1, 4, 4294967296), (9, 0, 0), (9, 0, 0)]
def E_d119_27 : e2_E := [(2147483648, 2147583648, 0, 0), (2147483653, 2147483653, 1, 0), (2147483648, 2147483688, 2, 0), (2147483648, 2147483688, 3, 0), (2147483647, 2147483667, 4, 0)]
noncomputable def h_d119_27 : ev_H := (dn1338 : e2_Q8)
def al_d119_28 : List ev_V := [(2, 83, 0), (11, 0, 4294967295), (1, 4, 4294967296), (1, 5, 4294967296), (9, 0, 0)]
def E_d119_28 : e2_E := [(2147483648, 2147583648, 0, 0), (2147483653, 2147483653, 1, 0), (2147483648, 2147483688, 2, 0), (2147483648, 2147483688, 3, 0), (2147483648, 2147483667, 4, 0), (2147483648, 2147483657, 5, 0)]
noncomputable def h_d119_28 : ev_H := (dn1338 : e2_Q8)
def dn1339 : e2_Q7 := (dn824, dn1038)
def dn1340 : e2_Q8 := (dn477, dn1339)
noncomputable def h_d119_0 : ev_H := (dn1340 : e2_Q8)
def dn1341 : e2_Q7 := (dn824, dn1050)
def dn1342 : e2_Q8 := (dn477, dn1341)
noncomputable def h_d119_1 : ev_H := (dn1342 : e2_Q8)
def dn1343 : e2_Q7 := (dn824, dn1058)
def dn1344 : e2_Q8 := (dn477, dn1343)
noncomputable def h_d119_2 : ev_H := (dn1344 : e2_Q8)
def dn1345 : e2_Q7 := (dn824, dn1066)
def dn1346 : e2_Q8 := (dn477, dn1345)
noncomputable def h_d119_3 : ev_H := (dn1346 : e2_Q8)
def dn1347 : e2_Q7 := (dn824, dn1074)
def dn1348 : e2_Q8 := (dn477, dn1347)
noncomputable def h_d119_4 : ev_H := (dn1348 : e2_Q8)
def dn1349 : e2_Q7 := (dn824, dn1082)
def dn1350 : e2_Q8 := (dn477, dn1349)
noncomputable def h_d119_5 : ev_H := (dn1350 : e2_Q8)
def dn1351 : e2_Q7 := (dn824, dn1090)
def dn1352 : e2_Q8 := (dn477, dn1351)
noncomputable def h_d119_6 : ev_H := (dn1352 : e2_Q8)
def dn1353 : e2_Q7 := (dn824, dn1098)
def dn1354 : e2_Q8 := (dn477, dn1353)
noncomputable def h_d119_7 : ev_H := (dn1354 : e2_Q8)
def dn1355 : e2_Q7 := (dn824, dn1106)
def dn1356 : e2_Q8 := (dn477, dn1355)
noncomputable def h_d119_8 : ev_H := (dn1356 : e2_Q8)
def dn1357 : e2_Q7 := (dn824, dn1114)
def dn1358 : e2_Q8 := (dn477, dn1357)
noncomputable def h_d119_9 : ev_H := (dn1358 : e2_Q8)
def dn1359 : e2_Q7 := (dn824, dn1122)
def dn1360 : e2_Q8 := (dn477, dn1359)
noncomputable def h_d119_10 : ev_H := (dn1360 : e2_Q8)
def dn1361 : e2_Q7 := (dn824, dn1130)
def dn1362 : e2_Q8 := (dn477, dn1361)
noncomputable def h_d119_11 : ev_H := (dn1362 : e2_Q8)
def dn1363 : e2_Q7 := (dn824, dn1138)
def dn1364 : e2_Q8 := (dn477, dn1363)
noncomputable def h_d119_12 : ev_H := (dn1364 : e2_Q8)
def dn1365 : e2_Q7 := (dn824, dn1146)
def dn1366 : e2_Q8 := (dn477, dn1365)
noncomputable def h_d119_13 : ev_H := (dn1366 : e2_Q8)
def dn1367 : e2_Q7 := (dn824, dn1154)
def dn1368 : e2_Q8 := (dn477, dn1367)
noncomputable def h_d119_14 : ev_H := (dn1368 : e2_Q8)
def dn1369 : e2_Q7 := (dn824, dn1162)
def dn1370 : e2_Q8 := (dn477, dn1369)
noncomputable def h_d119_15 : ev_H := (dn1370 : e2_Q8)
def dn1371 : e2_Q7 := (dn824, dn1170)
def dn1372 : e2_Q8 := (dn477, dn1371)
noncomputable def h_d119_16 : ev_H := (dn1372 : e2_Q8)
def dn1373 : e2_Q7 := (dn824, dn1178)
def dn1374 : e2_Q8 := (dn477, dn1373)
noncomputable def h_d119_17 : ev_H := (dn1374 : e2_Q8)
def dn1375 : e2_Q7 := (dn824, dn1186)
def dn1376 : e2_Q8 := (dn477, dn1375)
noncomputable def h_d119_18 : ev_H := (dn1376 : e2_Q8)
def dn1377 : e2_Q7 := (dn824, dn1194)
def dn1378 : e2_Q8 := (dn477, dn1377)
noncomputable def h_d119_19 : ev_H := (dn1378 : e2_Q8)
noncomputable def h_d119_20 : ev_H := (dn1338 : e2_Q8)
def dn1379 : e2_Q7 := (dn824, dn1202)
def dn1380 : e2_Q8 := (dn477, dn1379)
noncomputable def h_d119_21 : ev_H := (dn1380 : e2_Q8)
noncomputable def h_d119_22 : ev_H := (dn1380 : e2_Q8)
noncomputable def h_d119_23 : ev_H := (dn1380 : e2_Q8)
noncomputable def h_d119_24 : ev_H := (dn1380 : e2_Q8)
noncomputable def h_d119_25 : ev_H := (dn1380 : e2_Q8)
noncomputable def cu_d119_120 : List e2_Cu := [([(2, 83, 0), (11, 0, 4294967295), (0, 0, 0), (0, 8, 0), (9, 0, 0)], [(2147483648, 2147583648, 0, 0), (2147483653, 2147483653, 1, 0), (2147483648, 2147483688, 2, 0), (2147483648, 2147483688, 3, 0)], h_d119_0),
  ([(2, 83, 0), (11, 0, 4294967295), (0, 1, 0), (11, 2147483648, 2147483656), (11, 2147483647, 2147483652)], [(2147483648, 2147583648, 0, 0), (2147483653, 2147483653, 1, 0), (2147483648, 2147483688, 2, 0), (2147483648, 2147483688, 3, 0)], h_d119_1),
  ([(2, 83, 0), (11, 0, 4294967295), (0, 2, 0), (11, 2147483648, 2147483656), (11, 2147483647, 2147483652)], [(2147483648, 2147583648, 0, 0), (2147483653, 2147483653, 1, 0), (2147483648, 2147483688, 2, 0), (2147483648, 2147483688, 3, 0)], h_d119_2),
  ([(2, 83, 0), (11, 0, 4294967295), (0, 3, 0), (11, 2147483648, 2147483656), (11, 2147483647, 2147483652)], [(2147483648, 2147583648, 0, 0), (2147483653, 2147483653, 1, 0), (2147483648, 2147483688, 2, 0), (2147483648, 2147483688, 3, 0)], h_d119_3),
  ([(2, 83, 0), (11, 0, 4294967295), (0, 4, 0), (11, 2147483648, 2147483656), (11, 2147483647, 2147483652)], [(2147483648, 2147583648, 0, 0), (2147483653, 2147483653, 1, 0), (2147483648, 2147483688, 2, 0), (2147483648, 2147483688, 3, 0)], h_d119_4),
  ([(2, 83, 0), (11, 0, 4294967295), (0, 5, 0), (11, 2147483648, 2147483656), (11, 2147483647, 2147483652)], [(2147483648, 2147583648, 0, 0), (2147483653, 2147483653, 1, 0), (2147483648, 2147483688, 2, 0), (2147483648, 2147483688, 3, 0)], h_d119_5),
  ([(2, 83, 0), (11, 0, 4294967295), (0, 6, 0), (11, 2147483648, 2147483656), (11, 2147483647, 2147483652)], [(2147483648, 2147583648, 0, 0), (2147483653, 2147483653, 1, 0), (2147483648, 2147483688, 2, 0), (2147483648, 2147483688, 3, 0)], h_d119_6),
  ([(2, 83, 0), (11, 0, 4294967295), (0, 7, 0), (11, 2147483648, 2147483656), (11, 2147483647, 2147483652)], [(2147483648, 2147583648, 0, 0), (2147483653, 2147483653, 1, 0), (2147483648, 2147483688, 2, 0), (2147483648, 2147483688, 3, 0)], h_d119_7),
  ([(2, 83, 0), (11, 0, 4294967295), (0, 8, 0), (11, 2147483648, 2147483656), (11, 2147483647, 2147483652)], [(2147483648, 2147583648, 0, 0), (2147483653, 2147483653, 1, 0), (2147483648, 2147483688, 2, 0), (2147483648, 2147483688, 3, 0)], h_d119_8),
  ([(2, 83, 0), (11, 0, 4294967295), (0, 9, 0), (11, 2147483648, 2147483656), (11, 2147483647, 2147483652)], [(2147483648, 2147583648, 0, 0), (2147483653, 2147483653, 1, 0), (2147483648, 2147483688, 2, 0), (2147483648, 2147483688, 3, 0)], h_d119_9),
  ([(2, 83, 0), (11, 0, 4294967295), (0, 10, 0), (11, 2147483648, 2147483656), (11, 2147483647, 2147483652)], [(2147483648, 2147583648, 0, 0), (2147483653, 2147483653, 1, 0), (2147483648, 2147483688, 2, 0), (2147483648, 2147483688, 3, 0)], h_d119_10),
  ([(2, 83, 0), (11, 0, 4294967295), (0, 11, 0), (11, 2147483648, 2147483656), (11, 2147483647, 2147483652)], [(2147483648, 2147583648, 0, 0), (2147483653, 2147483653, 1, 0), (2147483648, 2147483688, 2, 0), (2147483648, 2147483688, 3, 0)], h_d119_11),
  ([(2, 83, 0), (11, 0, 4294967295), (0, 12, 0), (11, 2147483648, 2147483656), (11, 2147483647, 2147483652)], [(2147483648, 2147583648, 0, 0), (2147483653, 2147483653, 1, 0), (2147483648, 2147483688, 2, 0), (2147483648, 2147483688, 3, 0)], h_d119_12),
  ([(2, 83, 0), (11, 0, 4294967295), (0, 13, 0), (11, 2147483648, 2147483656), (11, 2147483647, 2147483652)], [(2147483648, 2147583648, 0, 0), (2147483653, 2147483653, 1, 0), (2147483648, 2147483688, 2, 0), (2147483648, 2147483688, 3, 0)], h_d119_13),
  ([(2, 83, 0), (11, 0, 4294967295), (0, 14, 0), (11, 2147483648, 2147483656), (11, 2147483647, 2147483652)], [(2147483648, 2147583648, 0, 0), (2147483653, 2147483653, 1, 0), (2147483648, 2147483688, 2, 0), (2147483648, 2147483688, 3, 0)], h_d119_14),
  ([(2, 83, 0), (11, 0, 4294967295), (0, 15, 0), (11, 2147483648, 2147483656), (11, 2147483647, 2147483652)], [(2147483648, 2147583648, 0, 0), (2147483653, 2147483653, 1, 0), (2147483648, 2147483688, 2, 0), (2147483648, 2147483688, 3, 0)], h_d119_15),
  ([(2, 83, 0), (11, 0, 4294967295), (0, 16, 0), (11, 2147483648, 2147483656), (11, 2147483647, 2147483652)], [(2147483648, 2147583648, 0, 0), (2147483653, 2147483653, 1, 0), (2147483648, 2147483688, 2, 0), (2147483648, 2147483688, 3, 0)], h_d119_16),
  ([(2, 83, 0), (11, 0, 4294967295), (0, 17, 0), (11, 2147483648, 2147483656), (11, 2147483647, 2147483652)], [(2147483648, 2147583648, 0, 0), (2147483653, 2147483653, 1, 0), (2147483648, 2147483688, 2, 0), (2147483648, 2147483688, 3, 0)], h_d119_17),
  ([(2, 83, 0), (11, 0, 4294967295), (0, 18, 0), (11, 2147483648, 2147483656), (11, 2147483647, 2147483652)], [(2147483648, 2147583648, 0, 0), (2147483653, 2147483653, 1, 0), (2147483648, 2147483688, 2, 0), (2147483648, 2147483688, 3, 0)], h_d119_18),
  ([(2, 83, 0), (11, 0, 4294967295), (0, 19, 0), (11, 2147483648, 2147483656), (11, 2147483647, 2147483652)], [(2147483648, 2147583648, 0, 0), (2147483653, 2147483653, 1, 0), (2147483648, 2147483688, 2, 0), (2147483648, 2147483688, 3, 0)], h_d119_19),
  ([(2, 83, 0), (11, 0, 4294967295), (0, 20, 0), (11, 2147483648, 2147483656), (11, 2147483647, 2147483652)], [(2147483648, 2147583648, 0, 0), (2147483653, 2147483653, 1, 0), (2147483648, 2147483688, 2, 0), (2147483648, 2147483688, 3, 0)], h_d119_20),
  ([(2, 83, 0), (11, 0, 4294967295), (0, 21, 0), (11, 2147483648, 2147483652), (11, 2147483648, 2147483652)], [(2147483648, 2147583648, 0, 0), (2147483653, 2147483653, 1, 0), (2147483648, 2147483688, 2, 0), (2147483648, 2147483688, 3, 0)], h_d119_21),
  ([(2, 83, 0), (11, 0, 4294967295), (0, 22, 0), (11, 2147483648, 2147483652), (11, 2147483648, 2147483652)], [(2147483648, 2147583648, 0, 0), (2147483653, 2147483653, 1, 0), (2147483648, 2147483688, 2, 0), (2147483648, 2147483688, 3, 0)], h_d119_22),
  ([(2, 83, 0), (11, 0, 4294967295), (0, 23, 0), (11, 2147483648, 2147483652), (11, 2147483648, 2147483652)], [(2147483648, 2147583648, 0, 0), (2147483653, 2147483653, 1, 0), (2147483648, 2147483688, 2, 0), (2147483648, 2147483688, 3, 0)], h_d119_23),
  ([(2, 83, 0), (11, 0, 4294967295), (0, 24, 0), (11, 2147483648, 2147483652), (11, 2147483648, 2147483652)], [(2147483648, 2147583648, 0, 0), (2147483653, 2147483653, 1, 0), (2147483648, 2147483688, 2, 0), (2147483648, 2147483688, 3, 0)], h_d119_24),
  ([(2, 83, 0), (11, 0, 4294967295), (0, 25, 0), (11, 2147483648, 2147483652), (11, 2147483648, 2147483652)], [(2147483648, 2147583648, 0, 0), (2147483653, 2147483653, 1, 0), (2147483648, 2147483688, 2, 0), (2147483648, 2147483688, 3, 0)], h_d119_25)]
noncomputable def cl_d119_e : List (Nat × e2_S) := [(2, e2_cutL (al_d119_26.set 2 (11, 2147483648, 2147483657)) 4 (E_d119_26.take 4) h_d119_26)]
set_option maxRecDepth 1000000 in
theorem ck_d119_e : e2_run (e2_orG 231 83 11 4 2147483648 2147483668 as_d113 Eb_d113 f_d113 rs_d113 (e2_orG 231 83 11 4 2147483648 2147483668 as_d112 Eb_d112 f_d112 rs_d112 (e2_orG 231 83 11 4 2147483648 2147483668 as_d111 Eb_d111 f_d111 rs_d111 (e2_orG 231 83 11 4 2147483648 2147483668 as_d110 Eb_d110 f_d110 rs_d110 (e2_orG 231 83 11 4 2147483648 2147483668 as_d109 Eb_d109 f_d109 rs_d109 (e2_orG 231 83 11 4 2147483648 2147483668 as_d108 Eb_d108 f_d108 rs_d108 (e2_orG 231 83 11 4 2147483648 2147483668 as_d107 Eb_d107 f_d107 rs_d107 (e2_orG 231 83 11 4 2147483648 2147483668 as_d106 Eb_d106 f_d106 rs_d106 (e2_orG 231 83 11 4 2147483648 2147483668 as_d105 Eb_d105 f_d105 rs_d105 (e2_orG 231 83 11 4 2147483648 2147483668 as_d104 Eb_d104 f_d104 rs_d104 (e2_orG 231 83 11 4 2147483648 2147483668 as_d103 Eb_d103 f_d103 rs_d103 (e2_orG 231 83 11 4 2147483648 2147483668 as_d102 Eb_d102 f_d102 rs_d102 (e2_orG 231 83 11 4 2147483648 2147483668 as_d101 Eb_d101 f_d101 rs_d101 (e2_orG 231 83 11 4 2147483648 2147483668 as_d100 Eb_d100 f_d100 rs_d100 (e2_orG 231 83 11 4 2147483648 2147483668 as_d99 Eb_d99 f_d99 rs_d99 (e2_orG 231 83 11 4 2147483648 2147483668 as_d98 Eb_d98 f_d98 rs_d98 (e2_orG 231 83 11 4 2147483648 2147483668 as_d97 Eb_d97 f_d97 rs_d97 (e2_orG 231 83 11 4 2147483648 2147483668 as_d96 Eb_d96 f_d96 rs_d96 (e2_orG 231 83 11 4 2147483648 2147483668 as_d95 Eb_d95 f_d95 rs_d95 (e2_orG 231 83 11 4 2147483648 2147483668 as_d94 Eb_d94 f_d94 rs_d94 (e2_cal S_d119 I_d119 4000 1))))))))))))))))))))) (e2_fin rs_d119) e2x_230 (e2_bpL cl_d119_e) (e2_cutA cl_d119_e) 4000 (e2_seek e2x_230 0) (e2_al 5 as_d119) [] E_d119 f_d119 = true := by decide +kernel
noncomputable def cl_d119_26 : List (Nat × e2_S) := [(2, e2_cutL (al_d119_26.set 2 (13, 12, 2147483657)) 4 (E_d119_26.take 4) h_d119_26),
  (49, e2_cutL (al_d119_27.set 2 (11, 2147483647, 2147483667)) 4 (E_d119_27.take 4) h_d119_27)]
set_option maxRecDepth 1000000 in
theorem ck_d119_26 : e2_runM (e2_orG 231 83 11 4 2147483648 2147483668 as_d113 Eb_d113 f_d113 rs_d113 (e2_orG 231 83 11 4 2147483648 2147483668 as_d112 Eb_d112 f_d112 rs_d112 (e2_orG 231 83 11 4 2147483648 2147483668 as_d111 Eb_d111 f_d111 rs_d111 (e2_orG 231 83 11 4 2147483648 2147483668 as_d110 Eb_d110 f_d110 rs_d110 (e2_orG 231 83 11 4 2147483648 2147483668 as_d109 Eb_d109 f_d109 rs_d109 (e2_orG 231 83 11 4 2147483648 2147483668 as_d108 Eb_d108 f_d108 rs_d108 (e2_orG 231 83 11 4 2147483648 2147483668 as_d107 Eb_d107 f_d107 rs_d107 (e2_orG 231 83 11 4 2147483648 2147483668 as_d106 Eb_d106 f_d106 rs_d106 (e2_orG 231 83 11 4 2147483648 2147483668 as_d105 Eb_d105 f_d105 rs_d105 (e2_orG 231 83 11 4 2147483648 2147483668 as_d104 Eb_d104 f_d104 rs_d104 (e2_orG 231 83 11 4 2147483648 2147483668 as_d103 Eb_d103 f_d103 rs_d103 (e2_orG 231 83 11 4 2147483648 2147483668 as_d102 Eb_d102 f_d102 rs_d102 (e2_orG 231 83 11 4 2147483648 2147483668 as_d101 Eb_d101 f_d101 rs_d101 (e2_orG 231 83 11 4 2147483648 2147483668 as_d100 Eb_d100 f_d100 rs_d100 (e2_orG 231 83 11 4 2147483648 2147483668 as_d99 Eb_d99 f_d99 rs_d99 (e2_orG 231 83 11 4 2147483648 2147483668 as_d98 Eb_d98 f_d98 rs_d98 (e2_orG 231 83 11 4 2147483648 2147483668 as_d97 Eb_d97 f_d97 rs_d97 (e2_orG 231 83 11 4 2147483648 2147483668 as_d96 Eb_d96 f_d96 rs_d96 (e2_orG 231 83 11 4 2147483648 2147483668 as_d95 Eb_d95 f_d95 rs_d95 (e2_orG 231 83 11 4 2147483648 2147483668 as_d94 Eb_d94 f_d94 rs_d94 (e2_cal S_d119 I_d119 4000 1))))))))))))))))))))) (e2_fin rs_d119) e2x_230 (e2_bpL cl_d119_26) (e2_cutA cl_d119_26) 4000 (e2_seek e2x_230 2) al_d119_26 [] E_d119_26 h_d119_26 = true := by decide +kernel
set_option maxRecDepth 1000000 in
theorem ci_d119_26 : e2_idl 4 (al_d119_26.set 2 (9, 0, 0)) = true := by decide +kernel
set_option maxRecDepth 1000000 in
theorem cj_d119_26 : e2_idh 4 8 h_d119_26 = true := by decide +kernel
noncomputable def cl_d119_27 : List (Nat × e2_S) := [(120, e2_cutS cu_d119_120),
  (55, e2_cutL (al_d119_28.set 3 (11, 2147483648, 2147483657)) 5 (E_d119_28.take 5) h_d119_28)]
set_option maxRecDepth 1000000 in
theorem ck_d119_27 : e2_runM (e2_orG 231 83 11 4 2147483648 2147483668 as_d113 Eb_d113 f_d113 rs_d113 (e2_orG 231 83 11 4 2147483648 2147483668 as_d112 Eb_d112 f_d112 rs_d112 (e2_orG 231 83 11 4 2147483648 2147483668 as_d111 Eb_d111 f_d111 rs_d111 (e2_orG 231 83 11 4 2147483648 2147483668 as_d110 Eb_d110 f_d110 rs_d110 (e2_orG 231 83 11 4 2147483648 2147483668 as_d109 Eb_d109 f_d109 rs_d109 (e2_orG 231 83 11 4 2147483648 2147483668 as_d108 Eb_d108 f_d108 rs_d108 (e2_orG 231 83 11 4 2147483648 2147483668 as_d107 Eb_d107 f_d107 rs_d107 (e2_orG 231 83 11 4 2147483648 2147483668 as_d106 Eb_d106 f_d106 rs_d106 (e2_orG 231 83 11 4 2147483648 2147483668 as_d105 Eb_d105 f_d105 rs_d105 (e2_orG 231 83 11 4 2147483648 2147483668 as_d104 Eb_d104 f_d104 rs_d104 (e2_orG 231 83 11 4 2147483648 2147483668 as_d103 Eb_d103 f_d103 rs_d103 (e2_orG 231 83 11 4 2147483648 2147483668 as_d102 Eb_d102 f_d102 rs_d102 (e2_orG 231 83 11 4 2147483648 2147483668 as_d101 Eb_d101 f_d101 rs_d101 (e2_orG 231 83 11 4 2147483648 2147483668 as_d100 Eb_d100 f_d100 rs_d100 (e2_orG 231 83 11 4 2147483648 2147483668 as_d99 Eb_d99 f_d99 rs_d99 (e2_orG 231 83 11 4 2147483648 2147483668 as_d98 Eb_d98 f_d98 rs_d98 (e2_orG 231 83 11 4 2147483648 2147483668 as_d97 Eb_d97 f_d97 rs_d97 (e2_orG 231 83 11 4 2147483648 2147483668 as_d96 Eb_d96 f_d96 rs_d96 (e2_orG 231 83 11 4 2147483648 2147483668 as_d95 Eb_d95 f_d95 rs_d95 (e2_orG 231 83 11 4 2147483648 2147483668 as_d94 Eb_d94 f_d94 rs_d94 (e2_cal S_d119 I_d119 4000 1))))))))))))))))))))) (e2_fin rs_d119) e2x_230 (e2_bpL cl_d119_27) (e2_cutA cl_d119_27) 4000 (e2_seek e2x_230 49) al_d119_27 [] E_d119_27 h_d119_27 = true := by decide +kernel
set_option maxRecDepth 1000000 in
theorem ci_d119_27 : e2_idl 4 (al_d119_27.set 2 (9, 0, 0)) = true := by decide +kernel
set_option maxRecDepth 1000000 in
theorem cj_d119_27 : e2_idh 4 8 h_d119_27 = true := by decide +kernel
noncomputable def cl_d119_28 : List (Nat × e2_S) := [(49, e2_cutL (al_d119_27.set 2 (12, 12, 2147483647)) 4 (E_d119_27.take 4) h_d119_27),
  (55, e2_cutL (al_d119_28.set 3 (13, 13, 2147483657)) 5 (E_d119_28.take 5) h_d119_28)]
set_option maxRecDepth 1000000 in
theorem ck_d119_28 : e2_runM (e2_orG 231 83 11 4 2147483648 2147483668 as_d113 Eb_d113 f_d113 rs_d113 (e2_orG 231 83 11 4 2147483648 2147483668 as_d112 Eb_d112 f_d112 rs_d112 (e2_orG 231 83 11 4 2147483648 2147483668 as_d111 Eb_d111 f_d111 rs_d111 (e2_orG 231 83 11 4 2147483648 2147483668 as_d110 Eb_d110 f_d110 rs_d110 (e2_orG 231 83 11 4 2147483648 2147483668 as_d109 Eb_d109 f_d109 rs_d109 (e2_orG 231 83 11 4 2147483648 2147483668 as_d108 Eb_d108 f_d108 rs_d108 (e2_orG 231 83 11 4 2147483648 2147483668 as_d107 Eb_d107 f_d107 rs_d107 (e2_orG 231 83 11 4 2147483648 2147483668 as_d106 Eb_d106 f_d106 rs_d106 (e2_orG 231 83 11 4 2147483648 2147483668 as_d105 Eb_d105 f_d105 rs_d105 (e2_orG 231 83 11 4 2147483648 2147483668 as_d104 Eb_d104 f_d104 rs_d104 (e2_orG 231 83 11 4 2147483648 2147483668 as_d103 Eb_d103 f_d103 rs_d103 (e2_orG 231 83 11 4 2147483648 2147483668 as_d102 Eb_d102 f_d102 rs_d102 (e2_orG 231 83 11 4 2147483648 2147483668 as_d101 Eb_d101 f_d101 rs_d101 (e2_orG 231 83 11 4 2147483648 2147483668 as_d100 Eb_d100 f_d100 rs_d100 (e2_orG 231 83 11 4 2147483648 2147483668 as_d99 Eb_d99 f_d99 rs_d99 (e2_orG 231 83 11 4 2147483648 2147483668 as_d98 Eb_d98 f_d98 rs_d98 (e2_orG 231 83 11 4 2147483648 2147483668 as_d97 Eb_d97 f_d97 rs_d97 (e2_orG 231 83 11 4 2147483648 2147483668 as_d96 Eb_d96 f_d96 rs_d96 (e2_orG 231 83 11 4 2147483648 2147483668 as_d95 Eb_d95 f_d95 rs_d95 (e2_orG 231 83 11 4 2147483648 2147483668 as_d94 Eb_d94 f_d94 rs_d94 (e2_cal S_d119 I_d119 4000 1))))))))))))))))))))) (e2_fin rs_d119) e2x_230 (e2_bpL cl_d119_28) (e2_cutA cl_d119_28) 4000 (e2_seek e2x_230 55) al_d119_28 [] E_d119_28 h_d119_28 = true := by decide +kernel
set_option maxRecDepth 1000000 in
theorem ci_d119_28 : e2_idl 5 (al_d119_28.set 3 (9, 0, 0)) = true := by decide +kernel
set_option maxRecDepth 1000000 in
theorem cj_d119_28 : e2_idh 5 8 h_d119_28 = true := by decide +kernel
set_option maxRecDepth 1000000 in
theorem ck_d119_u120 : e2_cutsB (e2_orG 231 83 11 4 2147483648 2147483668 as_d113 Eb_d113 f_d113 rs_d113 (e2_orG 231 83 11 4 2147483648 2147483668 as_d112 Eb_d112 f_d112 rs_d112 (e2_orG 231 83 11 4 2147483648 2147483668 as_d111 Eb_d111 f_d111 rs_d111 (e2_orG 231 83 11 4 2147483648 2147483668 as_d110 Eb_d110 f_d110 rs_d110 (e2_orG 231 83 11 4 2147483648 2147483668 as_d109 Eb_d109 f_d109 rs_d109 (e2_orG 231 83 11 4 2147483648 2147483668 as_d108 Eb_d108 f_d108 rs_d108 (e2_orG 231 83 11 4 2147483648 2147483668 as_d107 Eb_d107 f_d107 rs_d107 (e2_orG 231 83 11 4 2147483648 2147483668 as_d106 Eb_d106 f_d106 rs_d106 (e2_orG 231 83 11 4 2147483648 2147483668 as_d105 Eb_d105 f_d105 rs_d105 (e2_orG 231 83 11 4 2147483648 2147483668 as_d104 Eb_d104 f_d104 rs_d104 (e2_orG 231 83 11 4 2147483648 2147483668 as_d103 Eb_d103 f_d103 rs_d103 (e2_orG 231 83 11 4 2147483648 2147483668 as_d102 Eb_d102 f_d102 rs_d102 (e2_orG 231 83 11 4 2147483648 2147483668 as_d101 Eb_d101 f_d101 rs_d101 (e2_orG 231 83 11 4 2147483648 2147483668 as_d100 Eb_d100 f_d100 rs_d100 (e2_orG 231 83 11 4 2147483648 2147483668 as_d99 Eb_d99 f_d99 rs_d99 (e2_orG 231 83 11 4 2147483648 2147483668 as_d98 Eb_d98 f_d98 rs_d98 (e2_orG 231 83 11 4 2147483648 2147483668 as_d97 Eb_d97 f_d97 rs_d97 (e2_orG 231 83 11 4 2147483648 2147483668 as_d96 Eb_d96 f_d96 rs_d96 (e2_orG 231 83 11 4 2147483648 2147483668 as_d95 Eb_d95 f_d95 rs_d95 (e2_orG 231 83 11 4 2147483648 2147483668 as_d94 Eb_d94 f_d94 rs_d94 (e2_cal S_d119 I_d119 4000 1))))))))))))))))))))) (e2_fin rs_d119) e2x_230 120 4000 cu_d119_120 = true := by decide +kernel
set_option maxRecDepth 1000000 in
theorem cs_d119 (hen : en_ok) (l : Launch) : e2_smOk l 5 s_d119 := by
  refine e2_conC (H := 4) (C := evd_230) (call := (e2_orG 231 83 11 4 2147483648 2147483668 as_d113 Eb_d113 f_d113 rs_d113 (e2_orG 231 83 11 4 2147483648 2147483668 as_d112 Eb_d112 f_d112 rs_d112 (e2_orG 231 83 11 4 2147483648 2147483668 as_d111 Eb_d111 f_d111 rs_d111 (e2_orG 231 83 11 4 2147483648 2147483668 as_d110 Eb_d110 f_d110 rs_d110 (e2_orG 231 83 11 4 2147483648 2147483668 as_d109 Eb_d109 f_d109 rs_d109 (e2_orG 231 83 11 4 2147483648 2147483668 as_d108 Eb_d108 f_d108 rs_d108 (e2_orG 231 83 11 4 2147483648 2147483668 as_d107 Eb_d107 f_d107 rs_d107 (e2_orG 231 83 11 4 2147483648 2147483668 as_d106 Eb_d106 f_d106 rs_d106 (e2_orG 231 83 11 4 2147483648 2147483668 as_d105 Eb_d105 f_d105 rs_d105 (e2_orG 231 83 11 4 2147483648 2147483668 as_d104 Eb_d104 f_d104 rs_d104 (e2_orG 231 83 11 4 2147483648 2147483668 as_d103 Eb_d103 f_d103 rs_d103 (e2_orG 231 83 11 4 2147483648 2147483668 as_d102 Eb_d102 f_d102 rs_d102 (e2_orG 231 83 11 4 2147483648 2147483668 as_d101 Eb_d101 f_d101 rs_d101 (e2_orG 231 83 11 4 2147483648 2147483668 as_d100 Eb_d100 f_d100 rs_d100 (e2_orG 231 83 11 4 2147483648 2147483668 as_d99 Eb_d99 f_d99 rs_d99 (e2_orG 231 83 11 4 2147483648 2147483668 as_d98 Eb_d98 f_d98 rs_d98 (e2_orG 231 83 11 4 2147483648 2147483668 as_d97 Eb_d97 f_d97 rs_d97 (e2_orG 231 83 11 4 2147483648 2147483668 as_d96 Eb_d96 f_d96 rs_d96 (e2_orG 231 83 11 4 2147483648 2147483668 as_d95 Eb_d95 f_d95 rs_d95 (e2_orG 231 83 11 4 2147483648 2147483668 as_d94 Eb_d94 f_d94 rs_d94 (e2_cal S_d119 I_d119 4000 1)))))))))))))))))))))) ei_230 (fun d hd => (e2_orG_ok (k0 := 231) (a := 83) (j := 11) (n := 4) (lo := 2147483648) (hi := 2147483668) (as0 := as_d113) (Eb := Eb_d113) (f := f_d113) (res := rs_d113) (e2_orG_ok (k0 := 231) (a := 83) (j := 11) (n := 4) (lo := 2147483648) (hi := 2147483668) (as0 := as_d112) (Eb := Eb_d112) (f := f_d112) (res := rs_d112) (e2_orG_ok (k0 := 231) (a := 83) (j := 11) (n := 4) (lo := 2147483648) (hi := 2147483668) (as0 := as_d111) (Eb := Eb_d111) (f := f_d111) (res := rs_d111) (e2_orG_ok (k0 := 231) (a := 83) (j := 11) (n := 4) (lo := 2147483648) (hi := 2147483668) (as0 := as_d110) (Eb := Eb_d110) (f := f_d110) (res := rs_d110) (e2_orG_ok (k0 := 231) (a := 83) (j := 11) (n := 4) (lo := 2147483648) (hi := 2147483668) (as0 := as_d109) (Eb := Eb_d109) (f := f_d109) (res := rs_d109) (e2_orG_ok (k0 := 231) (a := 83) (j := 11) (n := 4) (lo := 2147483648) (hi := 2147483668) (as0 := as_d108) (Eb := Eb_d108) (f := f_d108) (res := rs_d108) (e2_orG_ok (k0 := 231) (a := 83) (j := 11) (n := 4) (lo := 2147483648) (hi := 2147483668) (as0 := as_d107) (Eb := Eb_d107) (f := f_d107) (res := rs_d107) (e2_orG_ok (k0 := 231) (a := 83) (j := 11) (n := 4) (lo := 2147483648) (hi := 2147483668) (as0 := as_d106) (Eb := Eb_d106) (f := f_d106) (res := rs_d106) (e2_orG_ok (k0 := 231) (a := 83) (j := 11) (n := 4) (lo := 2147483648) (hi := 2147483668) (as0 := as_d105) (Eb := Eb_d105) (f := f_d105) (res := rs_d105) (e2_orG_ok (k0 := 231) (a := 83) (j := 11) (n := 4) (lo := 2147483648) (hi := 2147483668) (as0 := as_d104) (Eb := Eb_d104) (f := f_d104) (res := rs_d104) (e2_orG_ok (k0 := 231) (a := 83) (j := 11) (n := 4) (lo := 2147483648) (hi := 2147483668) (as0 := as_d103) (Eb := Eb_d103) (f := f_d103) (res := rs_d103) (e2_orG_ok (k0 := 231) (a := 83) (j := 11) (n := 4) (lo := 2147483648) (hi := 2147483668) (as0 := as_d102) (Eb := Eb_d102) (f := f_d102) (res := rs_d102) (e2_orG_ok (k0 := 231) (a := 83) (j := 11) (n := 4) (lo := 2147483648) (hi := 2147483668) (as0 := as_d101) (Eb := Eb_d101) (f := f_d101) (res := rs_d101) (e2_orG_ok (k0 := 231) (a := 83) (j := 11) (n := 4) (lo := 2147483648) (hi := 2147483668) (as0 := as_d100) (Eb := Eb_d100) (f := f_d100) (res := rs_d100) (e2_orG_ok (k0 := 231) (a := 83) (j := 11) (n := 4) (lo := 2147483648) (hi := 2147483668) (as0 := as_d99) (Eb := Eb_d99) (f := f_d99) (res := rs_d99) (e2_orG_ok (k0 := 231) (a := 83) (j := 11) (n := 4) (lo := 2147483648) (hi := 2147483668) (as0 := as_d98) (Eb := Eb_d98) (f := f_d98) (res := rs_d98) (e2_orG_ok (k0 := 231) (a := 83) (j := 11) (n := 4) (lo := 2147483648) (hi := 2147483668) (as0 := as_d97) (Eb := Eb_d97) (f := f_d97) (res := rs_d97) (e2_orG_ok (k0 := 231) (a := 83) (j := 11) (n := 4) (lo := 2147483648) (hi := 2147483668) (as0 := as_d96) (Eb := Eb_d96) (f := f_d96) (res := rs_d96) (e2_orG_ok (k0 := 231) (a := 83) (j := 11) (n := 4) (lo := 2147483648) (hi := 2147483668) (as0 := as_d95) (Eb := Eb_d95) (f := f_d95) (res := rs_d95) (e2_orG_ok (k0 := 231) (a := 83) (j := 11) (n := 4) (lo := 2147483648) (hi := 2147483668) (as0 := as_d94) (Eb := Eb_d94) (f := f_d94) (res := rs_d94) (e2_cal_ok hen (e2_fa (cs_d44 hen l) (e2_fa (cs_d45 hen l) (e2_fa (cs_d46 hen l) (e2_fa (cs_d47 hen l) (e2_fa (cs_d48 hen l) (e2_fa (cs_d49 hen l) (e2_fa (cs_d50 hen l) (e2_fa (cs_d51 hen l) (e2_fa (cs_d52 hen l) (e2_fa (cs_d53 hen l) (e2_fa (cs_d54 hen l) (e2_fa (cs_d55 hen l) (e2_fa (cs_d56 hen l) (e2_fa (cs_d57 hen l) (e2_fa (cs_d58 hen l) (e2_fa (cs_d59 hen l) (e2_fa (cs_d60 hen l) (e2_fa (cs_d61 hen l) (e2_fa (cs_d62 hen l) (e2_fa (cs_d63 hen l) e2_fz)))))))))))))))))))) (e2_fa ein_216 (e2_fa ein_217 (e2_fa ein_227 e2_fz))) 1 d (by omega)) rfl (by decide +kernel) (fun M hM => (cs_d94 hen l).2 M hM d (by omega)) (e2_okGB_ok cog_d94)) rfl (by decide +kernel) (fun M hM => (cs_d95 hen l).2 M hM d (by omega)) (e2_okGB_ok cog_d95)) rfl (by decide +kernel) (fun M hM => (cs_d96 hen l).2 M hM d (by omega)) (e2_okGB_ok cog_d96)) rfl (by decide +kernel) (fun M hM => (cs_d97 hen l).2 M hM d (by omega)) (e2_okGB_ok cog_d97)) rfl (by decide +kernel) (fun M hM => (cs_d98 hen l).2 M hM d (by omega)) (e2_okGB_ok cog_d98)) rfl (by decide +kernel) (fun M hM => (cs_d99 hen l).2 M hM d (by omega)) (e2_okGB_ok cog_d99)) rfl (by decide +kernel) (fun M hM => (cs_d100 hen l).2 M hM d (by omega)) (e2_okGB_ok cog_d100)) rfl (by decide +kernel) (fun M hM => (cs_d101 hen l).2 M hM d (by omega)) (e2_okGB_ok cog_d101)) rfl (by decide +kernel) (fun M hM => (cs_d102 hen l).2 M hM d (by omega)) (e2_okGB_ok cog_d102)) rfl (by decide +kernel) (fun M hM => (cs_d103 hen l).2 M hM d (by omega)) (e2_okGB_ok cog_d103)) rfl (by decide +kernel) (fun M hM => (cs_d104 hen l).2 M hM d (by omega)) (e2_okGB_ok cog_d104)) rfl (by decide +kernel) (fun M hM => (cs_d105 hen l).2 M hM d (by omega)) (e2_okGB_ok cog_d105)) rfl (by decide +kernel) (fun M hM => (cs_d106 hen l).2 M hM d (by omega)) (e2_okGB_ok cog_d106)) rfl (by decide +kernel) (fun M hM => (cs_d107 hen l).2 M hM d (by omega)) (e2_okGB_ok cog_d107)) rfl (by decide +kernel) (fun M hM => (cs_d108 hen l).2 M hM d (by omega)) (e2_okGB_ok cog_d108)) rfl (by decide +kernel) (fun M hM => (cs_d109 hen l).2 M hM d (by omega)) (e2_okGB_ok cog_d109)) rfl (by decide +kernel) (fun M hM => (cs_d110 hen l).2 M hM d (by omega)) (e2_okGB_ok cog_d110)) rfl (by decide +kernel) (fun M hM => (cs_d111 hen l).2 M hM d (by omega)) (e2_okGB_ok cog_d111)) rfl (by decide +kernel) (fun M hM => (cs_d112 hen l).2 M hM d (by omega)) (e2_okGB_ok cog_d112)) rfl (by decide +kernel) (fun M hM => (cs_d113 hen l).2 M hM d (by omega)) (e2_okGB_ok cog_d113))) (by decide) co_d119 fun M d _ hC hcall p e R s m args below meth c Q D cA A ads r0 ha hl0 => ?_
  have EN_120 := e2_cutS_ok (bp := 120) (cuts := cu_d119_120) (e2_cuts_len hl0 (by decide +kernel)) (e2_cuts_ok hen ha hcall (hC [76, 192, 195]) (X := e2x_230) ex2_230 (e2_cuts_len hl0 (by decide +kernel)) ck_d119_u120)
  have L_27 : e2_gdM M p l e R s m args below meth c Q D cA A ads r0 49 al_d119_27 [] E_d119_27 h_d119_27 := by
    refine e2_indD (u := 4) (j := 2) (lo := 2147483647) (hi := 2147483667) hl0 (by decide) rfl rfl rfl ci_d119_27 cj_d119_27 ?_
    intro r_27 k_27 hk_27 hp_27 hs_27 hn_27
    have hl_27 : r_27.length ≤ 5 := hs_27.len rfl
    have ha_27 := ha.ext hp_27
    have L_28 : e2_gdM M p l e R s m args below meth c Q D cA A ads r_27 55 al_d119_28 [] E_d119_28 h_d119_28 := by
      refine e2_indL (u := 5) (j := 3) (lo := 2147483648) (hi := 2147483657) (b := 5) (dd := 0) hl_27 (by decide) rfl rfl (Or.inr ⟨rfl, rfl⟩) rfl ci_d119_28 cj_d119_28 ?_
      intro r_28 k_28 hk_28 hp_28 hs_28 hn_28
      have hl_28 : r_28.length ≤ 6 := hs_28.len rfl
      have ha_28 := ha_27.ext hp_28
      exact e2_fromM hen ha_28 hcall (e2_cutA_ok (e2_fa (fun al st E h hc => (hn_27 al st E h hc).ext hp_28) (e2_fa (fun al st E h hc => hn_28 al st E h hc) e2_fz))) (hC [76, 192, 195]) (X := e2x_230) ex2_230 55 ck_d119_28
    have EN_28 := e2_entL (u := 5) (j := 3) (lo := 2147483648) (hi := 2147483657) hl_27 rfl rfl rfl ci_d119_28 cj_d119_28 L_28
    exact e2_fromM hen ha_27 hcall (e2_cutA_ok (e2_fa (fun al st E h hc => (EN_120 al st E h hc).ext hp_27) (e2_fa (fun al st E h hc => EN_28 al st E h hc) e2_fz))) (hC [76, 192, 195]) (X := e2x_230) ex2_230 49 ck_d119_27
  have EN_27 := e2_entL (u := 4) (j := 2) (lo := 2147483647) (hi := 2147483667) hl0 rfl rfl rfl ci_d119_27 cj_d119_27 L_27
  have L_26 : e2_gdM M p l e R s m args below meth c Q D cA A ads r0 2 al_d119_26 [] E_d119_26 h_d119_26 := by
    refine e2_indL (u := 4) (j := 2) (lo := 2147483648) (hi := 2147483657) (b := 4) (dd := 0) hl0 (by decide) rfl rfl (Or.inr ⟨rfl, rfl⟩) rfl ci_d119_26 cj_d119_26 ?_
    intro r_26 k_26 hk_26 hp_26 hs_26 hn_26
    have hl_26 : r_26.length ≤ 5 := hs_26.len rfl
    have ha_26 := ha.ext hp_26
    exact e2_fromM hen ha_26 hcall (e2_cutA_ok (e2_fa (fun al st E h hc => hn_26 al st E h hc) (e2_fa (fun al st E h hc => (EN_27 al st E h hc).ext hp_26) e2_fz))) (hC [76, 192, 195]) (X := e2x_230) ex2_230 2 ck_d119_26
  have EN_26 := e2_entL (u := 4) (j := 2) (lo := 2147483648) (hi := 2147483657) hl0 rfl rfl rfl ci_d119_26 cj_d119_26 L_26
  exact e2_from hen ha hcall (e2_cutA_ok (e2_fa (fun al st E h hc => EN_26 al st E h hc) e2_fz)) (hC [76, 192, 195]) (X := e2x_230) ex2_230 0 ck_d119_e
/-! d120 X10_read -/
def as_d120 : List ev_V := [(2, 83, 0), (11, 0, 4294967295)]
def E_d120 : e2_E := [(2147483648, 2147583648, 0, 0), (2147483654, 2147483654, 1, 0), (2147483648, 2147483688, 2, 0), (2147483648, 2147483688, 3, 0)]
def dn1381 : e2_Q7 := (dn874, dn457)
def dn1382 : e2_Q8 := (dn477, dn1381)
noncomputable def f_d120 : ev_H := (dn1382 : e2_Q8)
noncomputable def q_d120_0 : ev_H := (dn1382 : e2_Q8)
noncomputable def rs_d120 : e2_Rs := [((11, 2147483647, 2147483668), q_d120_0)]
noncomputable def s_d120 : e2_Sm := (230, as_d120, E_d120, f_d120, rs_d120)
noncomputable def S_d120 : List e2_Sm := [s_d44, s_d45, s_d46, s_d47, s_d48, s_d49, s_d50, s_d51, s_d52, s_d53, s_d54, s_d55, s_d56, s_d57, s_d58, s_d59, s_d60, s_d61, s_d62, s_d63]
noncomputable def I_d120 : List e2_In := [(216, 1, e2x_216), (217, 1, e2x_217), (227, 2, e2x_227)]
set_option maxRecDepth 1000000 in
theorem co_d120 : e2_okSB E_d120.length as_d120 f_d120 rs_d120 = true := by decide +kernel
def al_d120_26 : List ev_V := [(2, 83, 0), (11, 0, 4294967295), (1, 4, 4294967296), (9, 0, 0), (9, 0, 0)]
def E_d120_26 : e2_E := [(2147483648, 2147583648, 0, 0), (2147483654, 2147483654, 1, 0), (2147483648, 2147483688, 2, 0), (2147483648, 2147483688, 3, 0), (2147483648, 2147483657, 4, 0)]
noncomputable def h_d120_26 : ev_H := (dn1382 : e2_Q8)
def al_d120_27 : List ev_V := [(2, 83, 0), (11, 0, 4294967295), (1, 4, 4294967296), (9, 0, 0), (9, 0, 0)]
def E_d120_27 : e2_E := [(2147483648, 2147583648, 0, 0), (2147483654, 2147483654, 1, 0), (2147483648, 2147483688, 2, 0), (2147483648, 2147483688, 3, 0), (2147483647, 2147483667, 4, 0)]
noncomputable def h_d120_27 : ev_H := (dn1382 : e2_Q8)
def al_d120_28 : List ev_V := [(2, 83, 0), (11, 0, 4294967295), (1, 4, 4294967296), (1, 5, 4294967296), (9, 0, 0)]
def E_d120_28 : e2_E := [(2147483648, 2147583648, 0, 0), (2147483654, 2147483654, 1, 0), (2147483648, 2147483688, 2, 0), (2147483648, 2147483688, 3, 0), (2147483648, 2147483667, 4, 0), (2147483648, 2147483657, 5, 0)]
noncomputable def h_d120_28 : ev_H := (dn1382 : e2_Q8)
def dn1383 : e2_Q7 := (dn874, dn1038)
def dn1384 : e2_Q8 := (dn477, dn1383)
noncomputable def h_d120_0 : ev_H := (dn1384 : e2_Q8)
def dn1385 : e2_Q7 := (dn874, dn1050)
def dn1386 : e2_Q8 := (dn477, dn1385)
noncomputable def h_d120_1 : ev_H := (dn1386 : e2_Q8)
def dn1387 : e2_Q7 := (dn874, dn1058)
def dn1388 : e2_Q8 := (dn477, dn1387)
noncomputable def h_d120_2 : ev_H := (dn1388 : e2_Q8)
def dn1389 : e2_Q7 := (dn874, dn1066)
def dn1390 : e2_Q8 := (dn477, dn1389)
noncomputable def h_d120_3 : ev_H := (dn1390 : e2_Q8)
def dn1391 : e2_Q7 := (dn874, dn1074)
def dn1392 : e2_Q8 := (dn477, dn1391)
noncomputable def h_d120_4 : ev_H := (dn1392 : e2_Q8)
def dn1393 : e2_Q7 := (dn874, dn1082)
def dn1394 : e2_Q8 := (dn477, dn1393)
noncomputable def h_d120_5 : ev_H := (dn1394 : e2_Q8)
def dn1395 : e2_Q7 := (dn874, dn1090)
def dn1396 : e2_Q8 := (dn477, dn1395)
noncomputable def h_d120_6 : ev_H := (dn1396 : e2_Q8)
def dn1397 : e2_Q7 := (dn874, dn1098)
def dn1398 : e2_Q8 := (dn477, dn1397)
noncomputable def h_d120_7 : ev_H := (dn1398 : e2_Q8)
def dn1399 : e2_Q7 := (dn874, dn1106)
def dn1400 : e2_Q8 := (dn477, dn1399)
noncomputable def h_d120_8 : ev_H := (dn1400 : e2_Q8)
def dn1401 : e2_Q7 := (dn874, dn1114)
def dn1402 : e2_Q8 := (dn477, dn1401)
noncomputable def h_d120_9 : ev_H := (dn1402 : e2_Q8)
def dn1403 : e2_Q7 := (dn874, dn1122)
def dn1404 : e2_Q8 := (dn477, dn1403)
noncomputable def h_d120_10 : ev_H := (dn1404 : e2_Q8)
def dn1405 : e2_Q7 := (dn874, dn1130)
def dn1406 : e2_Q8 := (dn477, dn1405)
noncomputable def h_d120_11 : ev_H := (dn1406 : e2_Q8)
def dn1407 : e2_Q7 := (dn874, dn1138)
def dn1408 : e2_Q8 := (dn477, dn1407)
noncomputable def h_d120_12 : ev_H := (dn1408 : e2_Q8)
def dn1409 : e2_Q7 := (dn874, dn1146)
def dn1410 : e2_Q8 := (dn477, dn1409)
noncomputable def h_d120_13 : ev_H := (dn1410 : e2_Q8)
def dn1411 : e2_Q7 := (dn874, dn1154)
def dn1412 : e2_Q8 := (dn477, dn1411)
noncomputable def h_d120_14 : ev_H := (dn1412 : e2_Q8)
def dn1413 : e2_Q7 := (dn874, dn1162)
def dn1414 : e2_Q8 := (dn477, dn1413)
noncomputable def h_d120_15 : ev_H := (dn1414 : e2_Q8)
def dn1415 : e2_Q7 := (dn874, dn1170)
def dn1416 : e2_Q8 := (dn477, dn1415)
noncomputable def h_d120_16 : ev_H := (dn1416 : e2_Q8)
def dn1417 : e2_Q7 := (dn874, dn1178)
def dn1418 : e2_Q8 := (dn477, dn1417)
noncomputable def h_d120_17 : ev_H := (dn1418 : e2_Q8)
def dn1419 : e2_Q7 := (dn874, dn1186)
def dn1420 : e2_Q8 := (dn477, dn1419)
noncomputable def h_d120_18 : ev_H := (dn1420 : e2_Q8)
def dn1421 : e2_Q7 := (dn874, dn1194)
def dn1422 : e2_Q8 := (dn477, dn1421)
noncomputable def h_d120_19 : ev_H := (dn1422 : e2_Q8)
noncomputable def h_d120_20 : ev_H := (dn1382 : e2_Q8)
def dn1423 : e2_Q7 := (dn874, dn1202)
def dn1424 : e2_Q8 := (dn477, dn1423)
noncomputable def h_d120_21 : ev_H := (dn1424 : e2_Q8)
noncomputable def h_d120_22 : ev_H := (dn1424 : e2_Q8)
noncomputable def h_d120_23 : ev_H := (dn1424 : e2_Q8)
noncomputable def h_d120_24 : ev_H := (dn1424 : e2_Q8)
noncomputable def h_d120_25 : ev_H := (dn1424 : e2_Q8)
noncomputable def cu_d120_120 : List e2_Cu := [([(2, 83, 0), (11, 0, 4294967295), (0, 0, 0), (0, 8, 0), (9, 0, 0)], [(2147483648, 2147583648, 0, 0), (2147483654, 2147483654, 1, 0), (2147483648, 2147483688, 2, 0), (2147483648, 2147483688, 3, 0)], h_d120_0),
  ([(2, 83, 0), (11, 0, 4294967295), (0, 1, 0), (11, 2147483648, 2147483656), (11, 2147483647, 2147483653)], [(2147483648, 2147583648, 0, 0), (2147483654, 2147483654, 1, 0), (2147483648, 2147483688, 2, 0), (2147483648, 2147483688, 3, 0)], h_d120_1),
  ([(2, 83, 0), (11, 0, 4294967295), (0, 2, 0), (11, 2147483648, 2147483656), (11, 2147483647, 2147483653)], [(2147483648, 2147583648, 0, 0), (2147483654, 2147483654, 1, 0), (2147483648, 2147483688, 2, 0), (2147483648, 2147483688, 3, 0)], h_d120_2),
  ([(2, 83, 0), (11, 0, 4294967295), (0, 3, 0), (11, 2147483648, 2147483656), (11, 2147483647, 2147483653)], [(2147483648, 2147583648, 0, 0), (2147483654, 2147483654, 1, 0), (2147483648, 2147483688, 2, 0), (2147483648, 2147483688, 3, 0)], h_d120_3),
  ([(2, 83, 0), (11, 0, 4294967295), (0, 4, 0), (11, 2147483648, 2147483656), (11, 2147483647, 2147483653)], [(2147483648, 2147583648, 0, 0), (2147483654, 2147483654, 1, 0), (2147483648, 2147483688, 2, 0), (2147483648, 2147483688, 3, 0)], h_d120_4),
  ([(2, 83, 0), (11, 0, 4294967295), (0, 5, 0), (11, 2147483648, 2147483656), (11, 2147483647, 2147483653)], [(2147483648, 2147583648, 0, 0), (2147483654, 2147483654, 1, 0), (2147483648, 2147483688, 2, 0), (2147483648, 2147483688, 3, 0)], h_d120_5),
  ([(2, 83, 0), (11, 0, 4294967295), (0, 6, 0), (11, 2147483648, 2147483656), (11, 2147483647, 2147483653)], [(2147483648, 2147583648, 0, 0), (2147483654, 2147483654, 1, 0), (2147483648, 2147483688, 2, 0), (2147483648, 2147483688, 3, 0)], h_d120_6),
  ([(2, 83, 0), (11, 0, 4294967295), (0, 7, 0), (11, 2147483648, 2147483656), (11, 2147483647, 2147483653)], [(2147483648, 2147583648, 0, 0), (2147483654, 2147483654, 1, 0), (2147483648, 2147483688, 2, 0), (2147483648, 2147483688, 3, 0)], h_d120_7),
  ([(2, 83, 0), (11, 0, 4294967295), (0, 8, 0), (11, 2147483648, 2147483656), (11, 2147483647, 2147483653)], [(2147483648, 2147583648, 0, 0), (2147483654, 2147483654, 1, 0), (2147483648, 2147483688, 2, 0), (2147483648, 2147483688, 3, 0)], h_d120_8),
  ([(2, 83, 0), (11, 0, 4294967295), (0, 9, 0), (11, 2147483648, 2147483656), (11, 2147483647, 2147483653)], [(2147483648, 2147583648, 0, 0), (2147483654, 2147483654, 1, 0), (2147483648, 2147483688, 2, 0), (2147483648, 2147483688, 3, 0)], h_d120_9),
  ([(2, 83, 0), (11, 0, 4294967295), (0, 10, 0), (11, 2147483648, 2147483656), (11, 2147483647, 2147483653)], [(2147483648, 2147583648, 0, 0), (2147483654, 2147483654, 1, 0), (2147483648, 2147483688, 2, 0), (2147483648, 2147483688, 3, 0)], h_d120_10),
  ([(2, 83, 0), (11, 0, 4294967295), (0, 11, 0), (11, 2147483648, 2147483656), (11, 2147483647, 2147483653)], [(2147483648, 2147583648, 0, 0), (2147483654, 2147483654, 1, 0), (2147483648, 2147483688, 2, 0), (2147483648, 2147483688, 3, 0)], h_d120_11),
  ([(2, 83, 0), (11, 0, 4294967295), (0, 12, 0), (11, 2147483648, 2147483656), (11, 2147483647, 2147483653)], [(2147483648, 2147583648, 0, 0), (2147483654, 2147483654, 1, 0), (2147483648, 2147483688, 2, 0), (2147483648, 2147483688, 3, 0)], h_d120_12),
  ([(2, 83, 0), (11, 0, 4294967295), (0, 13, 0), (11, 2147483648, 2147483656), (11, 2147483647, 2147483653)], [(2147483648, 2147583648, 0, 0), (2147483654, 2147483654, 1, 0), (2147483648, 2147483688, 2, 0), (2147483648, 2147483688, 3, 0)], h_d120_13),
  ([(2, 83, 0), (11, 0, 4294967295), (0, 14, 0), (11, 2147483648, 2147483656), (11, 2147483647, 2147483653)], [(2147483648, 2147583648, 0, 0), (2147483654, 2147483654, 1, 0), (2147483648, 2147483688, 2, 0), (2147483648, 2147483688, 3, 0)], h_d120_14),
  ([(2, 83, 0), (11, 0, 4294967295), (0, 15, 0), (11, 2147483648, 2147483656), (11, 2147483647, 2147483653)], [(2147483648, 2147583648, 0, 0), (2147483654, 2147483654, 1, 0), (2147483648, 2147483688, 2, 0), (2147483648, 2147483688, 3, 0)], h_d120_15),
  ([(2, 83, 0), (11, 0, 4294967295), (0, 16, 0), (11, 2147483648, 2147483656), (11, 2147483647, 2147483653)], [(2147483648, 2147583648, 0, 0), (2147483654, 2147483654, 1, 0), (2147483648, 2147483688, 2, 0), (2147483648, 2147483688, 3, 0)], h_d120_16),
  ([(2, 83, 0), (11, 0, 4294967295), (0, 17, 0), (11, 2147483648, 2147483656), (11, 2147483647, 2147483653)], [(2147483648, 2147583648, 0, 0), (2147483654, 2147483654, 1, 0), (2147483648, 2147483688, 2, 0), (2147483648, 2147483688, 3, 0)], h_d120_17),
  ([(2, 83, 0), (11, 0, 4294967295), (0, 18, 0), (11, 2147483648, 2147483656), (11, 2147483647, 2147483653)], [(2147483648, 2147583648, 0, 0), (2147483654, 2147483654, 1, 0), (2147483648, 2147483688, 2, 0), (2147483648, 2147483688, 3, 0)], h_d120_18),
  ([(2, 83, 0), (11, 0, 4294967295), (0, 19, 0), (11, 2147483648, 2147483656), (11, 2147483647, 2147483653)], [(2147483648, 2147583648, 0, 0), (2147483654, 2147483654, 1, 0), (2147483648, 2147483688, 2, 0), (2147483648, 2147483688, 3, 0)], h_d120_19),
  ([(2, 83, 0), (11, 0, 4294967295), (0, 20, 0), (11, 2147483648, 2147483656), (11, 2147483647, 2147483653)], [(2147483648, 2147583648, 0, 0), (2147483654, 2147483654, 1, 0), (2147483648, 2147483688, 2, 0), (2147483648, 2147483688, 3, 0)], h_d120_20),
  ([(2, 83, 0), (11, 0, 4294967295), (0, 21, 0), (11, 2147483648, 2147483653), (11, 2147483648, 2147483653)], [(2147483648, 2147583648, 0, 0), (2147483654, 2147483654, 1, 0), (2147483648, 2147483688, 2, 0), (2147483648, 2147483688, 3, 0)], h_d120_21),
  ([(2, 83, 0), (11, 0, 4294967295), (0, 22, 0), (11, 2147483648, 2147483653), (11, 2147483648, 2147483653)], [(2147483648, 2147583648, 0, 0), (2147483654, 2147483654, 1, 0), (2147483648, 2147483688, 2, 0), (2147483648, 2147483688, 3, 0)], h_d120_22),
  ([(2, 83, 0), (11, 0, 4294967295), (0, 23, 0), (11, 2147483648, 2147483653), (11, 2147483648, 2147483653)], [(2147483648, 2147583648, 0, 0), (2147483654, 2147483654, 1, 0), (2147483648, 2147483688, 2, 0), (2147483648, 2147483688, 3, 0)], h_d120_23),
  ([(2, 83, 0), (11, 0, 4294967295), (0, 24, 0), (11, 2147483648, 2147483653), (11, 2147483648, 2147483653)], [(2147483648, 2147583648, 0, 0), (2147483654, 2147483654, 1, 0), (2147483648, 2147483688, 2, 0), (2147483648, 2147483688, 3, 0)], h_d120_24),
  ([(2, 83, 0), (11, 0, 4294967295), (0, 25, 0), (11, 2147483648, 2147483653), (11, 2147483648, 2147483653)], [(2147483648, 2147583648, 0, 0), (2147483654, 2147483654, 1, 0), (2147483648, 2147483688, 2, 0), (2147483648, 2147483688, 3, 0)], h_d120_25)]
noncomputable def cl_d120_e : List (Nat × e2_S) := [(2, e2_cutL (al_d120_26.set 2 (11, 2147483648, 2147483657)) 4 (E_d120_26.take 4) h_d120_26)]
set_option maxRecDepth 1000000 in
theorem ck_d120_e : e2_run (e2_orG 231 83 11 4 2147483648 2147483668 as_d113 Eb_d113 f_d113 rs_d113 (e2_orG 231 83 11 4 2147483648 2147483668 as_d112 Eb_d112 f_d112 rs_d112 (e2_orG 231 83 11 4 2147483648 2147483668 as_d111 Eb_d111 f_d111 rs_d111 (e2_orG 231 83 11 4 2147483648 2147483668 as_d110 Eb_d110 f_d110 rs_d110 (e2_orG 231 83 11 4 2147483648 2147483668 as_d109 Eb_d109 f_d109 rs_d109 (e2_orG 231 83 11 4 2147483648 2147483668 as_d108 Eb_d108 f_d108 rs_d108 (e2_orG 231 83 11 4 2147483648 2147483668 as_d107 Eb_d107 f_d107 rs_d107 (e2_orG 231 83 11 4 2147483648 2147483668 as_d106 Eb_d106 f_d106 rs_d106 (e2_orG 231 83 11 4 2147483648 2147483668 as_d105 Eb_d105 f_d105 rs_d105 (e2_orG 231 83 11 4 2147483648 2147483668 as_d104 Eb_d104 f_d104 rs_d104 (e2_orG 231 83 11 4 2147483648 2147483668 as_d103 Eb_d103 f_d103 rs_d103 (e2_orG 231 83 11 4 2147483648 2147483668 as_d102 Eb_d102 f_d102 rs_d102 (e2_orG 231 83 11 4 2147483648 2147483668 as_d101 Eb_d101 f_d101 rs_d101 (e2_orG 231 83 11 4 2147483648 2147483668 as_d100 Eb_d100 f_d100 rs_d100 (e2_orG 231 83 11 4 2147483648 2147483668 as_d99 Eb_d99 f_d99 rs_d99 (e2_orG 231 83 11 4 2147483648 2147483668 as_d98 Eb_d98 f_d98 rs_d98 (e2_orG 231 83 11 4 2147483648 2147483668 as_d97 Eb_d97 f_d97 rs_d97 (e2_orG 231 83 11 4 2147483648 2147483668 as_d96 Eb_d96 f_d96 rs_d96 (e2_orG 231 83 11 4 2147483648 2147483668 as_d95 Eb_d95 f_d95 rs_d95 (e2_orG 231 83 11 4 2147483648 2147483668 as_d94 Eb_d94 f_d94 rs_d94 (e2_cal S_d120 I_d120 4000 1))))))))))))))))))))) (e2_fin rs_d120) e2x_230 (e2_bpL cl_d120_e) (e2_cutA cl_d120_e) 4000 (e2_seek e2x_230 0) (e2_al 5 as_d120) [] E_d120 f_d120 = true := by decide +kernel
noncomputable def cl_d120_26 : List (Nat × e2_S) := [(2, e2_cutL (al_d120_26.set 2 (13, 12, 2147483657)) 4 (E_d120_26.take 4) h_d120_26),
  (49, e2_cutL (al_d120_27.set 2 (11, 2147483647, 2147483667)) 4 (E_d120_27.take 4) h_d120_27)]
set_option maxRecDepth 1000000 in
theorem ck_d120_26 : e2_runM (e2_orG 231 83 11 4 2147483648 2147483668 as_d113 Eb_d113 f_d113 rs_d113 (e2_orG 231 83 11 4 2147483648 2147483668 as_d112 Eb_d112 f_d112 rs_d112 (e2_orG 231 83 11 4 2147483648 2147483668 as_d111 Eb_d111 f_d111 rs_d111 (e2_orG 231 83 11 4 2147483648 2147483668 as_d110 Eb_d110 f_d110 rs_d110 (e2_orG 231 83 11 4 2147483648 2147483668 as_d109 Eb_d109 f_d109 rs_d109 (e2_orG 231 83 11 4 2147483648 2147483668 as_d108 Eb_d108 f_d108 rs_d108 (e2_orG 231 83 11 4 2147483648 2147483668 as_d107 Eb_d107 f_d107 rs_d107 (e2_orG 231 83 11 4 2147483648 2147483668 as_d106 Eb_d106 f_d106 rs_d106 (e2_orG 231 83 11 4 2147483648 2147483668 as_d105 Eb_d105 f_d105 rs_d105 (e2_orG 231 83 11 4 2147483648 2147483668 as_d104 Eb_d104 f_d104 rs_d104 (e2_orG 231 83 11 4 2147483648 2147483668 as_d103 Eb_d103 f_d103 rs_d103 (e2_orG 231 83 11 4 2147483648 2147483668 as_d102 Eb_d102 f_d102 rs_d102 (e2_orG 231 83 11 4 2147483648 2147483668 as_d101 Eb_d101 f_d101 rs_d101 (e2_orG 231 83 11 4 2147483648 2147483668 as_d100 Eb_d100 f_d100 rs_d100 (e2_orG 231 83 11 4 2147483648 2147483668 as_d99 Eb_d99 f_d99 rs_d99 (e2_orG 231 83 11 4 2147483648 2147483668 as_d98 Eb_d98 f_d98 rs_d98 (e2_orG 231 83 11 4 2147483648 2147483668 as_d97 Eb_d97 f_d97 rs_d97 (e2_orG 231 83 11 4 2147483648 2147483668 as_d96 Eb_d96 f_d96 rs_d96 (e2_orG 231 83 11 4 2147483648 2147483668 as_d95 Eb_d95 f_d95 rs_d95 (e2_orG 231 83 11 4 2147483648 2147483668 as_d94 Eb_d94 f_d94 rs_d94 (e2_cal S_d120 I_d120 4000 1))))))))))))))))))))) (e2_fin rs_d120) e2x_230 (e2_bpL cl_d120_26) (e2_cutA cl_d120_26) 4000 (e2_seek e2x_230 2) al_d120_26 [] E_d120_26 h_d120_26 = true := by decide +kernel
set_option maxRecDepth 1000000 in
theorem ci_d120_26 : e2_idl 4 (al_d120_26.set 2 (9, 0, 0)) = true := by decide +kernel
set_option maxRecDepth 1000000 in
theorem cj_d120_26 : e2_idh 4 8 h_d120_26 = true := by decide +kernel
noncomputable def cl_d120_27 : List (Nat × e2_S) := [(120, e2_cutS cu_d120_120),
  (55, e2_cutL (al_d120_28.set 3 (11, 2147483648, 2147483657)) 5 (E_d120_28.take 5) h_d120_28)]
set_option maxRecDepth 1000000 in
theorem ck_d120_27 : e2_runM (e2_orG 231 83 11 4 2147483648 2147483668 as_d113 Eb_d113 f_d113 rs_d113 (e2_orG 231 83 11 4 2147483648 2147483668 as_d112 Eb_d112 f_d112 rs_d112 (e2_orG 231 83 11 4 2147483648 2147483668 as_d111 Eb_d111 f_d111 rs_d111 (e2_orG 231 83 11 4 2147483648 2147483668 as_d110 Eb_d110 f_d110 rs_d110 (e2_orG 231 83 11 4 2147483648 2147483668 as_d109 Eb_d109 f_d109 rs_d109 (e2_orG 231 83 11 4 2147483648 2147483668 as_d108 Eb_d108 f_d108 rs_d108 (e2_orG 231 83 11 4 2147483648 2147483668 as_d107 Eb_d107 f_d107 rs_d107 (e2_orG 231 83 11 4 2147483648 2147483668 as_d106 Eb_d106 f_d106 rs_d106 (e2_orG 231 83 11 4 2147483648 2147483668 as_d105 Eb_d105 f_d105 rs_d105 (e2_orG 231 83 11 4 2147483648 2147483668 as_d104 Eb_d104 f_d104 rs_d104 (e2_orG 231 83 11 4 2147483648 2147483668 as_d103 Eb_d103 f_d103 rs_d103 (e2_orG 231 83 11 4 2147483648 2147483668 as_d102 Eb_d102 f_d102 rs_d102 (e2_orG 231 83 11 4 2147483648 2147483668 as_d101 Eb_d101 f_d101 rs_d101 (e2_orG 231 83 11 4 2147483648 2147483668 as_d100 Eb_d100 f_d100 rs_d100 (e2_orG 231 83 11 4 2147483648 2147483668 as_d99 Eb_d99 f_d99 rs_d99 (e2_orG 231 83 11 4 2147483648 2147483668 as_d98 Eb_d98 f_d98 rs_d98 (e2_orG 231 83 11 4 2147483648 2147483668 as_d97 Eb_d97 f_d97 rs_d97 (e2_orG 231 83 11 4 2147483648 2147483668 as_d96 Eb_d96 f_d96 rs_d96 (e2_orG 231 83 11 4 2147483648 2147483668 as_d95 Eb_d95 f_d95 rs_d95 (e2_orG 231 83 11 4 2147483648 2147483668 as_d94 Eb_d94 f_d94 rs_d94 (e2_cal S_d120 I_d120 4000 1))))))))))))))))))))) (e2_fin rs_d120) e2x_230 (e2_bpL cl_d120_27) (e2_cutA cl_d120_27) 4000 (e2_seek e2x_230 49) al_d120_27 [] E_d120_27 h_d120_27 = true := by decide +kernel
set_option maxRecDepth 1000000 in
theorem ci_d120_27 : e2_idl 4 (al_d120_27.set 2 (9, 0, 0)) = true := by decide +kernel
set_option maxRecDepth 1000000 in
theorem cj_d120_27 : e2_idh 4 8 h_d120_27 = true := by decide +kernel
noncomputable def cl_d120_28 : List (Nat × e2_S) := [(49, e2_cutL (al_d120_27.set 2 (12, 12, 2147483647)) 4 (E_d120_27.take 4) h_d120_27),
  (55, e2_cutL (al_d120_28.set 3 (13, 13, 2147483657)) 5 (E_d120_28.take 5) h_d120_28)]
set_option maxRecDepth 1000000 in
theorem ck_d120_28 : e2_runM (e2_orG 231 83 11 4 2147483648 2147483668 as_d113 Eb_d113 f_d113 rs_d113 (e2_orG 231 83 11 4 2147483648 2147483668 as_d112 Eb_d112 f_d112 rs_d112 (e2_orG 231 83 11 4 2147483648 2147483668 as_d111 Eb_d111 f_d111 rs_d111 (e2_orG 231 83 11 4 2147483648 2147483668 as_d110 Eb_d110 f_d110 rs_d110 (e2_orG 231 83 11 4 2147483648 2147483668 as_d109 Eb_d109 f_d109 rs_d109 (e2_orG 231 83 11 4 2147483648 2147483668 as_d108 Eb_d108 f_d108 rs_d108 (e2_orG 231 83 11 4 2147483648 2147483668 as_d107 Eb_d107 f_d107 rs_d107 (e2_orG 231 83 11 4 2147483648 2147483668 as_d106 Eb_d106 f_d106 rs_d106 (e2_orG 231 83 11 4 2147483648 2147483668 as_d105 Eb_d105 f_d105 rs_d105 (e2_orG 231 83 11 4 2147483648 2147483668 as_d104 Eb_d104 f_d104 rs_d104 (e2_orG 231 83 11 4 2147483648 2147483668 as_d103 Eb_d103 f_d103 rs_d103 (e2_orG 231 83 11 4 2147483648 2147483668 as_d102 Eb_d102 f_d102 rs_d102 (e2_orG 231 83 11 4 2147483648 2147483668 as_d101 Eb_d101 f_d101 rs_d101 (e2_orG 231 83 11 4 2147483648 2147483668 as_d100 Eb_d100 f_d100 rs_d100 (e2_orG 231 83 11 4 2147483648 2147483668 as_d99 Eb_d99 f_d99 rs_d99 (e2_orG 231 83 11 4 2147483648 2147483668 as_d98 Eb_d98 f_d98 rs_d98 (e2_orG 231 83 11 4 2147483648 2147483668 as_d97 Eb_d97 f_d97 rs_d97 (e2_orG 231 83 11 4 2147483648 2147483668 as_d96 Eb_d96 f_d96 rs_d96 (e2_orG 231 83 11 4 2147483648 2147483668 as_d95 Eb_d95 f_d95 rs_d95 (e2_orG 231 83 11 4 2147483648 2147483668 as_d94 Eb_d94 f_d94 rs_d94 (e2_cal S_d120 I_d120 4000 1))))))))))))))))))))) (e2_fin rs_d120) e2x_230 (e2_bpL cl_d120_28) (e2_cutA cl_d120_28) 4000 (e2_seek e2x_230 55) al_d120_28 [] E_d120_28 h_d120_28 = true := by decide +kernel
set_option maxRecDepth 1000000 in
theorem ci_d120_28 : e2_idl 5 (al_d120_28.set 3 (9, 0, 0)) = true := by decide +kernel
set_option maxRecDepth 1000000 in
theorem cj_d120_28 : e2_idh 5 8 h_d120_28 = true := by decide +kernel
set_option maxRecDepth 1000000 in
theorem ck_d120_u120 : e2_cutsB (e2_orG 231 83 11 4 2147483648 2147483668 as_d113 Eb_d113 f_d113 rs_d113 (e2_orG 231 83 11 4 2147483648 2147483668 as_d112 Eb_d112 f_d112 rs_d112 (e2_orG 231 83 11 4 2147483648 2147483668 as_d111 Eb_d111 f_d111 rs_d111 (e2_orG 231 83 11 4 2147483648 2147483668 as_d110 Eb_d110 f_d110 rs_d110 (e2_orG 231 83 11 4 2147483648 2147483668 as_d109 Eb_d109 f_d109 rs_d109 (e2_orG 231 83 11 4 2147483648 2147483668 as_d108 Eb_d108 f_d108 rs_d108 (e2_orG 231 83 11 4 2147483648 2147483668 as_d107 Eb_d107 f_d107 rs_d107 (e2_orG 231 83 11 4 2147483648 2147483668 as_d106 Eb_d106 f_d106 rs_d106 (e2_orG 231 83 11 4 2147483648 2147483668 as_d105 Eb_d105 f_d105 rs_d105 (e2_orG 231 83 11 4 2147483648 2147483668 as_d104 Eb_d104 f_d104 rs_d104 (e2_orG 231 83 11 4 2147483648 2147483668 as_d103 Eb_d103 f_d103 rs_d103 (e2_orG 231 83 11 4 2147483648 2147483668 as_d102 Eb_d102 f_d102 rs_d102 (e2_orG 231 83 11 4 2147483648 2147483668 as_d101 Eb_d101 f_d101 rs_d101 (e2_orG 231 83 11 4 2147483648 2147483668 as_d100 Eb_d100 f_d100 rs_d100 (e2_orG 231 83 11 4 2147483648 2147483668 as_d99 Eb_d99 f_d99 rs_d99 (e2_orG 231 83 11 4 2147483648 2147483668 as_d98 Eb_d98 f_d98 rs_d98 (e2_orG 231 83 11 4 2147483648 2147483668 as_d97 Eb_d97 f_d97 rs_d97 (e2_orG 231 83 11 4 2147483648 2147483668 as_d96 Eb_d96 f_d96 rs_d96 (e2_orG 231 83 11 4 2147483648 2147483668 as_d95 Eb_d95 f_d95 rs_d95 (e2_orG 231 83 11 4 2147483648 2147483668 as_d94 Eb_d94 f_d94 rs_d94 (e2_cal S_d120 I_d120 4000 1))))))))))))))))))))) (e2_fin rs_d120) e2x_230 120 4000 cu_d120_120 = true := by decide +kernel
set_option maxRecDepth 1000000 in
theorem cs_d120 (hen : en_ok) (l : Launch) : e2_smOk l 5 s_d120 := by
  refine e2_conC (H := 4) (C := evd_230) (call := (e2_orG 231 83 11 4 2147483648 2147483668 as_d113 Eb_d113 f_d113 rs_d113 (e2_orG 231 83 11 4 2147483648 2147483668 as_d112 Eb_d112 f_d112 rs_d112 (e2_orG 231 83 11 4 2147483648 2147483668 as_d111 Eb_d111 f_d111 rs_d111 (e2_orG 231 83 11 4 2147483648 2147483668 as_d110 Eb_d110 f_d110 rs_d110 (e2_orG 231 83 11 4 2147483648 2147483668 as_d109 Eb_d109 f_d109 rs_d109 (e2_orG 231 83 11 4 2147483648 2147483668 as_d108 Eb_d108 f_d108 rs_d108 (e2_orG 231 83 11 4 2147483648 2147483668 as_d107 Eb_d107 f_d107 rs_d107 (e2_orG 231 83 11 4 2147483648 2147483668 as_d106 Eb_d106 f_d106 rs_d106 (e2_orG 231 83 11 4 2147483648 2147483668 as_d105 Eb_d105 f_d105 rs_d105 (e2_orG 231 83 11 4 2147483648 2147483668 as_d104 Eb_d104 f_d104 rs_d104 (e2_orG 231 83 11 4 2147483648 2147483668 as_d103 Eb_d103 f_d103 rs_d103 (e2_orG 231 83 11 4 2147483648 2147483668 as_d102 Eb_d102 f_d102 rs_d102 (e2_orG 231 83 11 4 2147483648 2147483668 as_d101 Eb_d101 f_d101 rs_d101 (e2_orG 231 83 11 4 2147483648 2147483668 as_d100 Eb_d100 f_d100 rs_d100 (e2_orG 231 83 11 4 2147483648 2147483668 as_d99 Eb_d99 f_d99 rs_d99 (e2_orG 231 83 11 4 2147483648 2147483668 as_d98 Eb_d98 f_d98 rs_d98 (e2_orG 231 83 11 4 2147483648 2147483668 as_d97 Eb_d97 f_d97 rs_d97 (e2_orG 231 83 11 4 2147483648 2147483668 as_d96 Eb_d96 f_d96 rs_d96 (e2_orG 231 83 11 4 2147483648 2147483668 as_d95 Eb_d95 f_d95 rs_d95 (e2_orG 231 83 11 4 2147483648 2147483668 as_d94 Eb_d94 f_d94 rs_d94 (e2_cal S_d120 I_d120 4000 1)))))))))))))))))))))) ei_230 (fun d hd => (e2_orG_ok (k0 := 231) (a := 83) (j := 11) (n := 4) (lo := 2147483648) (hi := 2147483668) (as0 := as_d113) (Eb := Eb_d113) (f := f_d113) (res := rs_d113) (e2_orG_ok (k0 := 231) (a := 83) (j := 11) (n := 4) (lo := 2147483648) (hi := 2147483668) (as0 := as_d112) (Eb := Eb_d112) (f := f_d112) (res := rs_d112) (e2_orG_ok (k0 := 231) (a := 83) (j := 11) (n := 4) (lo := 2147483648) (hi := 2147483668) (as0 := as_d111) (Eb := Eb_d111) (f := f_d111) (res := rs_d111) (e2_orG_ok (k0 := 231) (a := 83) (j := 11) (n := 4) (lo := 2147483648) (hi := 2147483668) (as0 := as_d110) (Eb := Eb_d110) (f := f_d110) (res := rs_d110) (e2_orG_ok (k0 := 231) (a := 83) (j := 11) (n := 4) (lo := 2147483648) (hi := 2147483668) (as0 := as_d109) (Eb := Eb_d109) (f := f_d109) (res := rs_d109) (e2_orG_ok (k0 := 231) (a := 83) (j := 11) (n := 4) (lo := 2147483648) (hi := 2147483668) (as0 := as_d108) (Eb := Eb_d108) (f := f_d108) (res := rs_d108) (e2_orG_ok (k0 := 231) (a := 83) (j := 11) (n := 4) (lo := 2147483648) (hi := 2147483668) (as0 := as_d107) (Eb := Eb_d107) (f := f_d107) (res := rs_d107) (e2_orG_ok (k0 := 231) (a := 83) (j := 11) (n := 4) (lo := 2147483648) (hi := 2147483668) (as0 := as_d106) (Eb := Eb_d106) (f := f_d106) (res := rs_d106) (e2_orG_ok (k0 := 231) (a := 83) (j := 11) (n := 4) (lo := 2147483648) (hi := 2147483668) (as0 := as_d105) (Eb := Eb_d105) (f := f_d105) (res := rs_d105) (e2_orG_ok (k0 := 231) (a := 83) (j := 11) (n := 4) (lo := 2147483648) (hi := 2147483668) (as0 := as_d104) (Eb := Eb_d104) (f := f_d104) (res := rs_d104) (e2_orG_ok (k0 := 231) (a := 83) (j := 11) (n := 4) (lo := 2147483648) (hi := 2147483668) (as0 := as_d103) (Eb := Eb_d103) (f := f_d103) (res := rs_d103) (e2_orG_ok (k0 := 231) (a := 83) (j := 11) (n := 4) (lo := 2147483648) (hi := 2147483668) (as0 := as_d102) (Eb := Eb_d102) (f := f_d102) (res := rs_d102) (e2_orG_ok (k0 := 231) (a := 83) (j := 11) (n := 4) (lo := 2147483648) (hi := 2147483668) (as0 := as_d101) (Eb := Eb_d101) (f := f_d101) (res := rs_d101) (e2_orG_ok (k0 := 231) (a := 83) (j := 11) (n := 4) (lo := 2147483648) (hi := 2147483668) (as0 := as_d100) (Eb := Eb_d100) (f := f_d100) (res := rs_d100) (e2_orG_ok (k0 := 231) (a := 83) (j := 11) (n := 4) (lo := 2147483648) (hi := 2147483668) (as0 := as_d99) (Eb := Eb_d99) (f := f_d99) (res := rs_d99) (e2_orG_ok (k0 := 231) (a := 83) (j := 11) (n := 4) (lo := 2147483648) (hi := 2147483668) (as0 := as_d98) (Eb := Eb_d98) (f := f_d98) (res := rs_d98) (e2_orG_ok (k0 := 231) (a := 83) (j := 11) (n := 4) (lo := 2147483648) (hi := 2147483668) (as0 := as_d97) (Eb := Eb_d97) (f := f_d97) (res := rs_d97) (e2_orG_ok (k0 := 231) (a := 83) (j := 11) (n := 4) (lo := 2147483648) (hi := 2147483668) (as0 := as_d96) (Eb := Eb_d96) (f := f_d96) (res := rs_d96) (e2_orG_ok (k0 := 231) (a := 83) (j := 11) (n := 4) (lo := 2147483648) (hi := 2147483668) (as0 := as_d95) (Eb := Eb_d95) (f := f_d95) (res := rs_d95) (e2_orG_ok (k0 := 231) (a := 83) (j := 11) (n := 4) (lo := 2147483648) (hi := 2147483668) (as0 := as_d94) (Eb := Eb_d94) (f := f_d94) (res := rs_d94) (e2_cal_ok hen (e2_fa (cs_d44 hen l) (e2_fa (cs_d45 hen l) (e2_fa (cs_d46 hen l) (e2_fa (cs_d47 hen l) (e2_fa (cs_d48 hen l) (e2_fa (cs_d49 hen l) (e2_fa (cs_d50 hen l) (e2_fa (cs_d51 hen l) (e2_fa (cs_d52 hen l) (e2_fa (cs_d53 hen l) (e2_fa (cs_d54 hen l) (e2_fa (cs_d55 hen l) (e2_fa (cs_d56 hen l) (e2_fa (cs_d57 hen l) (e2_fa (cs_d58 hen l) (e2_fa (cs_d59 hen l) (e2_fa (cs_d60 hen l) (e2_fa (cs_d61 hen l) (e2_fa (cs_d62 hen l) (e2_fa (cs_d63 hen l) e2_fz)))))))))))))))))))) (e2_fa ein_216 (e2_fa ein_217 (e2_fa ein_227 e2_fz))) 1 d (by omega)) rfl (by decide +kernel) (fun M hM => (cs_d94 hen l).2 M hM d (by omega)) (e2_okGB_ok cog_d94)) rfl (by decide +kernel) (fun M hM => (cs_d95 hen l).2 M hM d (by omega)) (e2_okGB_ok cog_d95)) rfl (by decide +kernel) (fun M hM => (cs_d96 hen l).2 M hM d (by omega)) (e2_okGB_ok cog_d96)) rfl (by decide +kernel) (fun M hM => (cs_d97 hen l).2 M hM d (by omega)) (e2_okGB_ok cog_d97)) rfl (by decide +kernel) (fun M hM => (cs_d98 hen l).2 M hM d (by omega)) (e2_okGB_ok cog_d98)) rfl (by decide +kernel) (fun M hM => (cs_d99 hen l).2 M hM d (by omega)) (e2_okGB_ok cog_d99)) rfl (by decide +kernel) (fun M hM => (cs_d100 hen l).2 M hM d (by omega)) (e2_okGB_ok cog_d100)) rfl (by decide +kernel) (fun M hM => (cs_d101 hen l).2 M hM d (by omega)) (e2_okGB_ok cog_d101)) rfl (by decide +kernel) (fun M hM => (cs_d102 hen l).2 M hM d (by omega)) (e2_okGB_ok cog_d102)) rfl (by decide +kernel) (fun M hM => (cs_d103 hen l).2 M hM d (by omega)) (e2_okGB_ok cog_d103)) rfl (by decide +kernel) (fun M hM => (cs_d104 hen l).2 M hM d (by omega)) (e2_okGB_ok cog_d104)) rfl (by decide +kernel) (fun M hM => (cs_d105 hen l).2 M hM d (by omega)) (e2_okGB_ok cog_d105)) rfl (by decide +kernel) (fun M hM => (cs_d106 hen l).2 M hM d (by omega)) (e2_okGB_ok cog_d106)) rfl (by decide +kernel) (fun M hM => (cs_d107 hen l).2 M hM d (by omega)) (e2_okGB_ok cog_d107)) rfl (by decide +kernel) (fun M hM => (cs_d108 hen l).2 M hM d (by omega)) (e2_okGB_ok cog_d108)) rfl (by decide +kernel) (fun M hM => (cs_d109 hen l).2 M hM d (by omega)) (e2_okGB_ok cog_d109)) rfl (by decide +kernel) (fun M hM => (cs_d110 hen l).2 M hM d (by omega)) (e2_okGB_ok cog_d110)) rfl (by decide +kernel) (fun M hM => (cs_d111 hen l).2 M hM d (by omega)) (e2_okGB_ok cog_d111)) rfl (by decide +kernel) (fun M hM => (cs_d112 hen l).2 M hM d (by omega)) (e2_okGB_ok cog_d112)) rfl (by decide +kernel) (fun M hM => (cs_d113 hen l).2 M hM d (by omega)) (e2_okGB_ok cog_d113))) (by decide) co_d120 fun M d _ hC hcall p e R s m args below meth c Q D cA A ads r0 ha hl0 => ?_
  have EN_120 := e2_cutS_ok (bp := 120) (cuts := cu_d120_120) (e2_cuts_len hl0 (by decide +kernel)) (e2_cuts_ok hen ha hcall (hC [76, 192, 195]) (X := e2x_230) ex2_230 (e2_cuts_len hl0 (by decide +kernel)) ck_d120_u120)
  have L_27 : e2_gdM M p l e R s m args below meth c Q D cA A ads r0 49 al_d120_27 [] E_d120_27 h_d120_27 := by
    refine e2_indD (u := 4) (j := 2) (lo := 2147483647) (hi := 2147483667) hl0 (by decide) rfl rfl rfl ci_d120_27 cj_d120_27 ?_
    intro r_27 k_27 hk_27 hp_27 hs_27 hn_27
    have hl_27 : r_27.length ≤ 5 := hs_27.len rfl
    have ha_27 := ha.ext hp_27
    have L_28 : e2_gdM M p l e R s m args below meth c Q D cA A ads r_27 55 al_d120_28 [] E_d120_28 h_d120_28 := by
      refine e2_indL (u := 5) (j := 3) (lo := 2147483648) (hi := 2147483657) (b := 5) (dd := 0) hl_27 (by decide) rfl rfl (Or.inr ⟨rfl, rfl⟩) rfl ci_d120_28 cj_d120_28 ?_
      intro r_28 k_28 hk_28 hp_28 hs_28 hn_28
      have hl_28 : r_28.length ≤ 6 := hs_28.len rfl
      have ha_28 := ha_27.ext hp_28
      exact e2_fromM hen ha_28 hcall (e2_cutA_ok (e2_fa (fun al st E h hc => (hn_27 al st E h hc).ext hp_28) (e2_fa (fun al st E h hc => hn_28 al st E h hc) e2_fz))) (hC [76, 192, 195]) (X := e2x_230) ex2_230 55 ck_d120_28
    have EN_28 := e2_entL (u := 5) (j := 3) (lo := 2147483648) (hi := 2147483657) hl_27 rfl rfl rfl ci_d120_28 cj_d120_28 L_28
    exact e2_fromM hen ha_27 hcall (e2_cutA_ok (e2_fa (fun al st E h hc => (EN_120 al st E h hc).ext hp_27) (e2_fa (fun al st E h hc => EN_28 al st E h hc) e2_fz))) (hC [76, 192, 195]) (X := e2x_230) ex2_230 49 ck_d120_27
  have EN_27 := e2_entL (u := 4) (j := 2) (lo := 2147483647) (hi := 2147483667) hl0 rfl rfl rfl ci_d120_27 cj_d120_27 L_27
  have L_26 : e2_gdM M p l e R s m args below meth c Q D cA A ads r0 2 al_d120_26 [] E_d120_26 h_d120_26 := by
    refine e2_indL (u := 4) (j := 2) (lo := 2147483648) (hi := 2147483657) (b := 4) (dd := 0) hl0 (by decide) rfl rfl (Or.inr ⟨rfl, rfl⟩) rfl ci_d120_26 cj_d120_26 ?_
    intro r_26 k_26 hk_26 hp_26 hs_26 hn_26
    have hl_26 : r_26.length ≤ 5 := hs_26.len rfl
    have ha_26 := ha.ext hp_26
    exact e2_fromM hen ha_26 hcall (e2_cutA_ok (e2_fa (fun al st E h hc => hn_26 al st E h hc) (e2_fa (fun al st E h hc => (EN_27 al st E h hc).ext hp_26) e2_fz))) (hC [76, 192, 195]) (X := e2x_230) ex2_230 2 ck_d120_26
  have EN_26 := e2_entL (u := 4) (j := 2) (lo := 2147483648) (hi := 2147483657) hl0 rfl rfl rfl ci_d120_26 cj_d120_26 L_26
  exact e2_from hen ha hcall (e2_cutA_ok (e2_fa (fun al st E h hc => EN_26 al st E h hc) e2_fz)) (hC [76, 192, 195]) (X := e2x_230) ex2_230 0 ck_d120_e
/-! d121 X10_read -/
def as_d121 : List ev_V := [(2, 83, 0), (11, 0, 4294967295)]
def E_d121 : e2_E := [(2147483648, 2147583648, 0, 0), (2147483655, 2147483655, 1, 0), (2147483648, 2147483688, 2, 0), (2147483648, 2147483688, 3, 0)]
def dn1425 : e2_Q7 := (dn924, dn457)
def dn1426 : e2_Q8 := (dn477, dn1425)
noncomputable def f_d121 : ev_H := (dn1426 : e2_Q8)
noncomputable def q_d121_0 : ev_H := (dn1426 : e2_Q8)
noncomputable def rs_d121 : e2_Rs := [((11, 2147483647, 2147483668), q_d121_0)]
noncomputable def s_d121 : e2_Sm := (230, as_d121, E_d121, f_d121, rs_d121)
noncomputable def S_d121 : List e2_Sm := [s_d44, s_d45, s_d46, s_d47, s_d48, s_d49, s_d50, s_d51, s_d52, s_d53, s_d54, s_d55, s_d56, s_d57, s_d58, s_d59, s_d60, s_d61, s_d62, s_d63]
noncomputable def I_d121 : List e2_In := [(216, 1, e2x_216), (217, 1, e2x_217), (227, 2, e2x_227)]
set_option maxRecDepth 1000000 in
theorem co_d121 : e2_okSB E_d121.length as_d121 f_d121 rs_d121 = true := by decide +kernel
def al_d121_26 : List ev_V := [(2, 83, 0), (11, 0, 4294967295), (1, 4, 4294967296), (9, 0, 0), (9, 0, 0)]
def E_d121_26 : e2_E := [(2147483648, 2147583648, 0, 0), (2147483655, 2147483655, 1, 0), (2147483648, 2147483688, 2, 0), (2147483648, 2147483688, 3, 0), (2147483648, 2147483657, 4, 0)]
noncomputable def h_d121_26 : ev_H := (dn1426 : e2_Q8)
def al_d121_27 : List ev_V := [(2, 83, 0), (11, 0, 4294967295), (1, 4, 4294967296), (9, 0, 0), (9, 0, 0)]
def E_d121_27 : e2_E := [(2147483648, 2147583648, 0, 0), (2147483655, 2147483655, 1, 0), (2147483648, 2147483688, 2, 0), (2147483648, 2147483688, 3, 0), (2147483647, 2147483667, 4, 0)]
noncomputable def h_d121_27 : ev_H := (dn1426 : e2_Q8)
def al_d121_28 : List ev_V := [(2, 83, 0), (11, 0, 4294967295), (1, 4, 4294967296), (1, 5, 4294967296), (9, 0, 0)]
def E_d121_28 : e2_E := [(2147483648, 2147583648, 0, 0), (2147483655, 2147483655, 1, 0), (2147483648, 2147483688, 2, 0), (2147483648, 2147483688, 3, 0), (2147483648, 2147483667, 4, 0), (2147483648, 2147483657, 5, 0)]
noncomputable def h_d121_28 : ev_H := (dn1426 : e2_Q8)
def dn1427 : e2_Q7 := (dn924, dn1038)
def dn1428 : e2_Q8 := (dn477, dn1427)
noncomputable def h_d121_0 : ev_H := (dn1428 : e2_Q8)
def dn1429 : e2_Q7 := (dn924, dn1050)
def dn1430 : e2_Q8 := (dn477, dn1429)
noncomputable def h_d121_1 : ev_H := (dn1430 : e2_Q8)
def dn1431 : e2_Q7 := (dn924, dn1058)
def dn1432 : e2_Q8 := (dn477, dn1431)
noncomputable def h_d121_2 : ev_H := (dn1432 : e2_Q8)
def dn1433 : e2_Q7 := (dn924, dn1066)
def dn1434 : e2_Q8 := (dn477, dn1433)
noncomputable def h_d121_3 : ev_H := (dn1434 : e2_Q8)
def dn1435 : e2_Q7 := (dn924, dn1074)
def dn1436 : e2_Q8 := (dn477, dn1435)
noncomputable def h_d121_4 : ev_H := (dn1436 : e2_Q8)
def dn1437 : e2_Q7 := (dn924, dn1082)
def dn1438 : e2_Q8 := (dn477, dn1437)
noncomputable def h_d121_5 : ev_H := (dn1438 : e2_Q8)
def dn1439 : e2_Q7 := (dn924, dn1090)
def dn1440 : e2_Q8 := (dn477, dn1439)
noncomputable def h_d121_6 : ev_H := (dn1440 : e2_Q8)
def dn1441 : e2_Q7 := (dn924, dn1098)
def dn1442 : e2_Q8 := (dn477, dn1441)
noncomputable def h_d121_7 : ev_H := (dn1442 : e2_Q8)
def dn1443 : e2_Q7 := (dn924, dn1106)
def dn1444 : e2_Q8 := (dn477, dn1443)
noncomputable def h_d121_8 : ev_H := (dn1444 : e2_Q8)
def dn1445 : e2_Q7 := (dn924, dn1114)
def dn1446 : e2_Q8 := (dn477, dn1445)
noncomputable def h_d121_9 : ev_H := (dn1446 : e2_Q8)
def dn1447 : e2_Q7 := (dn924, dn1122)
def dn1448 : e2_Q8 := (dn477, dn1447)
noncomputable def h_d121_10 : ev_H := (dn1448 : e2_Q8)
def dn1449 : e2_Q7 := (dn924, dn1130)
def dn1450 : e2_Q8 := (dn477, dn1449)
noncomputable def h_d121_11 : ev_H := (dn1450 : e2_Q8)
def dn1451 : e2_Q7 := (dn924, dn1138)
def dn1452 : e2_Q8 := (dn477, dn1451)
noncomputable def h_d121_12 : ev_H := (dn1452 : e2_Q8)
def dn1453 : e2_Q7 := (dn924, dn1146)
def dn1454 : e2_Q8 := (dn477, dn1453)
noncomputable def h_d121_13 : ev_H := (dn1454 : e2_Q8)
def dn1455 : e2_Q7 := (dn924, dn1154)
def dn1456 : e2_Q8 := (dn477, dn1455)
noncomputable def h_d121_14 : ev_H := (dn1456 : e2_Q8)
def dn1457 : e2_Q7 := (dn924, dn1162)
def dn1458 : e2_Q8 := (dn477, dn1457)
noncomputable def h_d121_15 : ev_H := (dn1458 : e2_Q8)
def dn1459 : e2_Q7 := (dn924, dn1170)
def dn1460 : e2_Q8 := (dn477, dn1459)
noncomputable def h_d121_16 : ev_H := (dn1460 : e2_Q8)
def dn1461 : e2_Q7 := (dn924, dn1178)
def dn1462 : e2_Q8 := (dn477, dn1461)
noncomputable def h_d121_17 : ev_H := (dn1462 : e2_Q8)
def dn1463 : e2_Q7 := (dn924, dn1186)
def dn1464 : e2_Q8 := (dn477, dn1463)
noncomputable def h_d121_18 : ev_H := (dn1464 : e2_Q8)
def dn1465 : e2_Q7 := (dn924, dn1194)
def dn1466 : e2_Q8 := (dn477, dn1465)
noncomputable def h_d121_19 : ev_H := (dn1466 : e2_Q8)
noncomputable def h_d121_20 : ev_H := (dn1426 : e2_Q8)
def dn1467 : e2_Q7 := (dn924, dn1202)
def dn1468 : e2_Q8 := (dn477, dn1467)
noncomputable def h_d121_21 : ev_H := (dn1468 : e2_Q8)
noncomputable def h_d121_22 : ev_H := (dn1468 : e2_Q8)
noncomputable def h_d121_23 : ev_H := (dn1468 : e2_Q8)
noncomputable def h_d121_24 : ev_H := (dn1468 : e2_Q8)
noncomputable def h_d121_25 : ev_H := (dn1468 : e2_Q8)
noncomputable def cu_d121_120 : List e2_Cu := [([(2, 83, 0), (11, 0, 4294967295), (0, 0, 0), (0, 8, 0), (9, 0, 0)], [(2147483648, 2147583648, 0, 0), (2147483655, 2147483655, 1, 0), (2147483648, 2147483688, 2, 0), (2147483648, 2147483688, 3, 0)], h_d121_0),
  ([(2, 83, 0), (11, 0, 4294967295), (0, 1, 0), (11, 2147483648, 2147483656), (11, 2147483647, 2147483654)], [(2147483648, 2147583648, 0, 0), (2147483655, 2147483655, 1, 0), (2147483648, 2147483688, 2, 0), (2147483648, 2147483688, 3, 0)], h_d121_1),
  ([(2, 83, 0), (11, 0, 4294967295), (0, 2, 0), (11, 2147483648, 2147483656), (11, 2147483647, 2147483654)], [(2147483648, 2147583648, 0, 0), (2147483655, 2147483655, 1, 0), (2147483648, 2147483688, 2, 0), (2147483648, 2147483688, 3, 0)], h_d121_2),
  ([(2, 83, 0), (11, 0, 4294967295), (0, 3, 0), (11, 2147483648, 2147483656), (11, 2147483647, 2147483654)], [(2147483648, 2147583648, 0, 0), (2147483655, 2147483655, 1, 0), (2147483648, 2147483688, 2, 0), (2147483648, 2147483688, 3, 0)], h_d121_3),
  ([(2, 83, 0), (11, 0, 4294967295), (0, 4, 0), (11, 2147483648, 2147483656), (11, 2147483647, 2147483654)], [(2147483648, 2147583648, 0, 0), (2147483655, 2147483655, 1, 0), (2147483648, 2147483688, 2, 0), (2147483648, 2147483688, 3, 0)], h_d121_4),
  ([(2, 83, 0), (11, 0, 4294967295), (0, 5, 0), (11, 2147483648, 2147483656), (11, 2147483647, 2147483654)], [(2147483648, 2147583648, 0, 0), (2147483655, 2147483655, 1, 0), (2147483648, 2147483688, 2, 0), (2147483648, 2147483688, 3, 0)], h_d121_5),
  ([(2, 83, 0), (11, 0, 4294967295), (0, 6, 0), (11, 2147483648, 2147483656), (11, 2147483647, 2147483654)], [(2147483648, 2147583648, 0, 0), (2147483655, 2147483655, 1, 0), (2147483648, 2147483688, 2, 0), (2147483648, 2147483688, 3, 0)], h_d121_6),
  ([(2, 83, 0), (11, 0, 4294967295), (0, 7, 0), (11, 2147483648, 2147483656), (11, 2147483647, 2147483654)], [(2147483648, 2147583648, 0, 0), (2147483655, 2147483655, 1, 0), (2147483648, 2147483688, 2, 0), (2147483648, 2147483688, 3, 0)], h_d121_7),
  ([(2, 83, 0), (11, 0, 4294967295), (0, 8, 0), (11, 2147483648, 2147483656), (11, 2147483647, 2147483654)], [(2147483648, 2147583648, 0, 0), (2147483655, 2147483655, 1, 0), (2147483648, 2147483688, 2, 0), (2147483648, 2147483688, 3, 0)], h_d121_8),
  ([(2, 83, 0), (11, 0, 4294967295), (0, 9, 0), (11, 2147483648, 2147483656), (11, 2147483647, 2147483654)], [(2147483648, 2147583648, 0, 0), (2147483655, 2147483655, 1, 0), (2147483648, 2147483688, 2, 0), (2147483648, 2147483688, 3, 0)], h_d121_9),
  ([(2, 83, 0), (11, 0, 4294967295), (0, 10, 0), (11, 2147483648, 2147483656), (11, 2147483647, 2147483654)], [(2147483648, 2147583648, 0, 0), (2147483655, 2147483655, 1, 0), (2147483648, 2147483688, 2, 0), (2147483648, 2147483688, 3, 0)], h_d121_10),
  ([(2, 83, 0), (11, 0, 4294967295), (0, 11, 0), (11, 2147483648, 2147483656), (11, 2147483647, 2147483654)], [(2147483648, 2147583648, 0, 0), (2147483655, 2147483655, 1, 0), (2147483648, 2147483688, 2, 0), (2147483648, 2147483688, 3, 0)], h_d121_11),
  ([(2, 83, 0), (11, 0, 4294967295), (0, 12, 0), (11, 2147483648, 2147483656), (11, 2147483647, 2147483654)], [(2147483648, 2147583648, 0, 0), (2147483655, 2147483655, 1, 0), (2147483648, 2147483688, 2, 0), (2147483648, 2147483688, 3, 0)], h_d121_12),
  ([(2, 83, 0), (11, 0, 4294967295), (0, 13, 0), (11, 2147483648, 2147483656), (11, 2147483647, 2147483654)], [(2147483648, 2147583648, 0, 0), (2147483655, 2147483655, 1, 0), (2147483648, 2147483688, 2, 0), (2147483648, 2147483688, 3, 0)], h_d121_13),
  ([(2, 83, 0), (11, 0, 4294967295), (0, 14, 0), (11, 2147483648, 2147483656), (11, 2147483647, 2147483654)], [(2147483648, 2147583648, 0, 0), (2147483655, 2147483655, 1, 0), (2147483648, 2147483688, 2, 0), (2147483648, 2147483688, 3, 0)], h_d121_14),
  ([(2, 83, 0), (11, 0, 4294967295), (0, 15, 0), (11, 2147483648, 2147483656), (11, 2147483647, 2147483654)], [(2147483648, 2147583648, 0, 0), (2147483655, 2147483655, 1, 0), (2147483648, 2147483688, 2, 0), (2147483648, 2147483688, 3, 0)], h_d121_15),
  ([(2, 83, 0), (11, 0, 4294967295), (0, 16, 0), (11, 2147483648, 2147483656), (11, 2147483647, 2147483654)], [(2147483648, 2147583648, 0, 0), (2147483655, 2147483655, 1, 0), (2147483648, 2147483688, 2, 0), (2147483648, 2147483688, 3, 0)], h_d121_16),
  ([(2, 83, 0), (11, 0, 4294967295), (0, 17, 0), (11, 2147483648, 2147483656), (11, 2147483647, 2147483654)], [(2147483648, 2147583648, 0, 0), (2147483655, 2147483655, 1, 0), (2147483648, 2147483688, 2, 0), (2147483648, 2147483688, 3, 0)], h_d121_17),
  ([(2, 83, 0), (11, 0, 4294967295), (0, 18, 0), (11, 2147483648, 2147483656), (11, 2147483647, 2147483654)], [(2147483648, 2147583648, 0, 0), (2147483655, 2147483655, 1, 0), (2147483648, 2147483688, 2, 0), (2147483648, 2147483688, 3, 0)], h_d121_18),
  ([(2, 83, 0), (11, 0, 4294967295), (0, 19, 0), (11, 2147483648, 2147483656), (11, 2147483647, 2147483654)], [(2147483648, 2147583648, 0, 0), (2147483655, 2147483655, 1, 0), (2147483648, 2147483688, 2, 0), (2147483648, 2147483688, 3, 0)], h_d121_19),
  ([(2, 83, 0), (11, 0, 4294967295), (0, 20, 0), (11, 2147483648, 2147483656), (11, 2147483647, 2147483654)], [(2147483648, 2147583648, 0, 0), (2147483655, 2147483655, 1, 0), (2147483648, 2147483688, 2, 0), (2147483648, 2147483688, 3, 0)], h_d121_20),
  ([(2, 83, 0), (11, 0, 4294967295), (0, 21, 0), (11, 2147483648, 2147483654), (11, 2147483648, 2147483654)], [(2147483648, 2147583648, 0, 0), (2147483655, 2147483655, 1, 0), (2147483648, 2147483688, 2, 0), (2147483648, 2147483688, 3, 0)], h_d121_21),
  ([(2, 83, 0), (11, 0, 4294967295), (0, 22, 0), (11, 2147483648, 2147483654), (11, 2147483648, 2147483654)], [(2147483648, 2147583648, 0, 0), (2147483655, 2147483655, 1, 0), (2147483648, 2147483688, 2, 0), (2147483648, 2147483688, 3, 0)], h_d121_22),
  ([(2, 83, 0), (11, 0, 4294967295), (0, 23, 0), (11, 2147483648, 2147483654), (11, 2147483648, 2147483654)], [(2147483648, 2147583648, 0, 0), (2147483655, 2147483655, 1, 0), (2147483648, 2147483688, 2, 0), (2147483648, 2147483688, 3, 0)], h_d121_23),
  ([(2, 83, 0), (11, 0, 4294967295), (0, 24, 0), (11, 2147483648, 2147483654), (11, 2147483648, 2147483654)], [(2147483648, 2147583648, 0, 0), (2147483655, 2147483655, 1, 0), (2147483648, 2147483688, 2, 0), (2147483648, 2147483688, 3, 0)], h_d121_24),
  ([(2, 83, 0), (11, 0, 4294967295), (0, 25, 0), (11, 2147483648, 2147483654), (11, 2147483648, 2147483654)], [(2147483648, 2147583648, 0, 0), (2147483655, 2147483655, 1, 0), (2147483648, 2147483688, 2, 0), (2147483648, 2147483688, 3, 0)], h_d121_25)]
noncomputable def cl_d121_e : List (Nat × e2_S) := [(2, e2_cutL (al_d121_26.set 2 (11, 2147483648, 2147483657)) 4 (E_d121_26.take 4) h_d121_26)]
set_option maxRecDepth 1000000 in
theorem ck_d121_e : e2_run (e2_orG 231 83 11 4 2147483648 2147483668 as_d113 Eb_d113 f_d113 rs_d113 (e2_orG 231 83 11 4 2147483648 2147483668 as_d112 Eb_d112 f_d112 rs_d112 (e2_orG 231 83 11 4 2147483648 2147483668 as_d111 Eb_d111 f_d111 rs_d111 (e2_orG 231 83 11 4 2147483648 2147483668 as_d110 Eb_d110 f_d110 rs_d110 (e2_orG 231 83 11 4 2147483648 2147483668 as_d109 Eb_d109 f_d109 rs_d109 (e2_orG 231 83 11 4 2147483648 2147483668 as_d108 Eb_d108 f_d108 rs_d108 (e2_orG 231 83 11 4 2147483648 2147483668 as_d107 Eb_d107 f_d107 rs_d107 (e2_orG 231 83 11 4 2147483648 2147483668 as_d106 Eb_d106 f_d106 rs_d106 (e2_orG 231 83 11 4 2147483648 2147483668 as_d105 Eb_d105 f_d105 rs_d105 (e2_orG 231 83 11 4 2147483648 2147483668 as_d104 Eb_d104 f_d104 rs_d104 (e2_orG 231 83 11 4 2147483648 2147483668 as_d103 Eb_d103 f_d103 rs_d103 (e2_orG 231 83 11 4 2147483648 2147483668 as_d102 Eb_d102 f_d102 rs_d102 (e2_orG 231 83 11 4 2147483648 2147483668 as_d101 Eb_d101 f_d101 rs_d101 (e2_orG 231 83 11 4 2147483648 2147483668 as_d100 Eb_d100 f_d100 rs_d100 (e2_orG 231 83 11 4 2147483648 2147483668 as_d99 Eb_d99 f_d99 rs_d99 (e2_orG 231 83 11 4 2147483648 2147483668 as_d98 Eb_d98 f_d98 rs_d98 (e2_orG 231 83 11 4 2147483648 2147483668 as_d97 Eb_d97 f_d97 rs_d97 (e2_orG 231 83 11 4 2147483648 2147483668 as_d96 Eb_d96 f_d96 rs_d96 (e2_orG 231 83 11 4 2147483648 2147483668 as_d95 Eb_d95 f_d95 rs_d95 (e2_orG 231 83 11 4 2147483648 2147483668 as_d94 Eb_d94 f_d94 rs_d94 (e2_cal S_d121 I_d121 4000 1))))))))))))))))))))) (e2_fin rs_d121) e2x_230 (e2_bpL cl_d121_e) (e2_cutA cl_d121_e) 4000 (e2_seek e2x_230 0) (e2_al 5 as_d121) [] E_d121 f_d121 = true := by decide +kernel
noncomputable def cl_d121_26 : List (Nat × e2_S) := [(2, e2_cutL (al_d121_26.set 2 (13, 12, 2147483657)) 4 (E_d121_26.take 4) h_d121_26),
  (49, e2_cutL (al_d121_27.set 2 (11, 2147483647, 2147483667)) 4 (E_d121_27.take 4) h_d121_27)]
set_option maxRecDepth 1000000 in
theorem ck_d121_26 : e2_runM (e2_orG 231 83 11 4 2147483648 2147483668 as_d113 Eb_d113 f_d113 rs_d113 (e2_orG 231 83 11 4 2147483648 2147483668 as_d112 Eb_d112 f_d112 rs_d112 (e2_orG 231 83 11 4 2147483648 2147483668 as_d111 Eb_d111 f_d111 rs_d111 (e2_orG 231 83 11 4 2147483648 2147483668 as_d110 Eb_d110 f_d110 rs_d110 (e2_orG 231 83 11 4 2147483648 2147483668 as_d109 Eb_d109 f_d109 rs_d109 (e2_orG 231 83 11 4 2147483648 2147483668 as_d108 Eb_d108 f_d108 rs_d108 (e2_orG 231 83 11 4 2147483648 2147483668 as_d107 Eb_d107 f_d107 rs_d107 (e2_orG 231 83 11 4 2147483648 2147483668 as_d106 Eb_d106 f_d106 rs_d106 (e2_orG 231 83 11 4 2147483648 2147483668 as_d105 Eb_d105 f_d105 rs_d105 (e2_orG 231 83 11 4 2147483648 2147483668 as_d104 Eb_d104 f_d104 rs_d104 (e2_orG 231 83 11 4 2147483648 2147483668 as_d103 Eb_d103 f_d103 rs_d103 (e2_orG 231 83 11 4 2147483648 2147483668 as_d102 Eb_d102 f_d102 rs_d102 (e2_orG 231 83 11 4 2147483648 2147483668 as_d101 Eb_d101 f_d101 rs_d101 (e2_orG 231 83 11 4 2147483648 2147483668 as_d100 Eb_d100 f_d100 rs_d100 (e2_orG 231 83 11 4 2147483648 2147483668 as_d99 Eb_d99 f_d99 rs_d99 (e2_orG 231 83 11 4 2147483648 2147483668 as_d98 Eb_d98 f_d98 rs_d98 (e2_orG 231 83 11 4 2147483648 2147483668 as_d97 Eb_d97 f_d97 rs_d97 (e2_orG 231 83 11 4 2147483648 2147483668 as_d96 Eb_d96 f_d96 rs_d96 (e2_orG 231 83 11 4 2147483648 2147483668 as_d95 Eb_d95 f_d95 rs_d95 (e2_orG 231 83 11 4 2147483648 2147483668 as_d94 Eb_d94 f_d94 rs_d94 (e2_cal S_d121 I_d121 4000 1))))))))))))))))))))) (e2_fin rs_d121) e2x_230 (e2_bpL cl_d121_26) (e2_cutA cl_d121_26) 4000 (e2_seek e2x_230 2) al_d121_26 [] E_d121_26 h_d121_26 = true := by decide +kernel
set_option maxRecDepth 1000000 in
theorem ci_d121_26 : e2_idl 4 (al_d121_26.set 2 (9, 0, 0)) = true := by decide +kernel
set_option maxRecDepth 1000000 in
theorem cj_d121_26 : e2_idh 4 8 h_d121_26 = true := by decide +kernel
noncomputable def cl_d121_27 : List (Nat × e2_S) := [(120, e2_cutS cu_d121_120),
  (55, e2_cutL (al_d121_28.set 3 (11, 2147483648, 2147483657)) 5 (E_d121_28.take 5) h_d121_28)]
set_option maxRecDepth 1000000 in
theorem ck_d121_27 : e2_runM (e2_orG 231 83 11 4 2147483648 2147483668 as_d113 Eb_d113 f_d113 rs_d113 (e2_orG 231 83 11 4 2147483648 2147483668 as_d112 Eb_d112 f_d112 rs_d112 (e2_orG 231 83 11 4 2147483648 2147483668 as_d111 Eb_d111 f_d111 rs_d111 (e2_orG 231 83 11 4 2147483648 2147483668 as_d110 Eb_d110 f_d110 rs_d110 (e2_orG 231 83 11 4 2147483648 2147483668 as_d109 Eb_d109 f_d109 rs_d109 (e2_orG 231 83 11 4 2147483648 2147483668 as_d108 Eb_d108 f_d108 rs_d108 (e2_orG 231 83 11 4 2147483648 2147483668 as_d107 Eb_d107 f_d107 rs_d107 (e2_orG 231 83 11 4 2147483648 2147483668 as_d106 Eb_d106 f_d106 rs_d106 (e2_orG 231 83 11 4 2147483648 2147483668 as_d105 Eb_d105 f_d105 rs_d105 (e2_orG 231 83 11 4 2147483648 2147483668 as_d104 Eb_d104 f_d104 rs_d104 (e2_orG 231 83 11 4 2147483648 2147483668 as_d103 Eb_d103 f_d103 rs_d103 (e2_orG 231 83 11 4 2147483648 2147483668 as_d102 Eb_d102 f_d102 rs_d102 (e2_orG 231 83 11 4 2147483648 2147483668 as_d101 Eb_d101 f_d101 rs_d101 (e2_orG 231 83 11 4 2147483648 2147483668 as_d100 Eb_d100 f_d100 rs_d100 (e2_orG 231 83 11 4 2147483648 2147483668 as_d99 Eb_d99 f_d99 rs_d99 (e2_orG 231 83 11 4 2147483648 2147483668 as_d98 Eb_d98 f_d98 rs_d98 (e2_orG 231 83 11 4 2147483648 2147483668 as_d97 Eb_d97 f_d97 rs_d97 (e2_orG 231 83 11 4 2147483648 2147483668 as_d96 Eb_d96 f_d96 rs_d96 (e2_orG 231 83 11 4 2147483648 2147483668 as_d95 Eb_d95 f_d95 rs_d95 (e2_orG 231 83 11 4 2147483648 2147483668 as_d94 Eb_d94 f_d94 rs_d94 (e2_cal S_d121 I_d121 4000 1))))))))))))))))))))) (e2_fin rs_d121) e2x_230 (e2_bpL cl_d121_27) (e2_cutA cl_d121_27) 4000 (e2_seek e2x_230 49) al_d121_27 [] E_d121_27 h_d121_27 = true := by decide +kernel
set_option maxRecDepth 1000000 in
theorem ci_d121_27 : e2_idl 4 (al_d121_27.set 2 (9, 0, 0)) = true := by decide +kernel
set_option maxRecDepth 1000000 in
theorem cj_d121_27 : e2_idh 4 8 h_d121_27 = true := by decide +kernel
noncomputable def cl_d121_28 : List (Nat × e2_S) := [(49, e2_cutL (al_d121_27.set 2 (12, 12, 2147483647)) 4 (E_d121_27.take 4) h_d121_27),
  (55, e2_cutL (al_d121_28.set 3 (13, 13, 2147483657)) 5 (E_d121_28.take 5) h_d121_28)]
set_option maxRecDepth 1000000 in
theorem ck_d121_28 : e2_runM (e2_orG 231 83 11 4 2147483648 2147483668 as_d113 Eb_d113 f_d113 rs_d113 (e2_orG 231 83 11 4 2147483648 2147483668 as_d112 Eb_d112 f_d112 rs_d112 (e2_orG 231 83 11 4 2147483648 2147483668 as_d111 Eb_d111 f_d111 rs_d111 (e2_orG 231 83 11 4 2147483648 2147483668 as_d110 Eb_d110 f_d110 rs_d110 (e2_orG 231 83 11 4 2147483648 2147483668 as_d109 Eb_d109 f_d109 rs_d109 (e2_orG 231 83 11 4 2147483648 2147483668 as_d108 Eb_d108 f_d108 rs_d108 (e2_orG 231 83 11 4 2147483648 2147483668 as_d107 Eb_d107 f_d107 rs_d107 (e2_orG 231 83 11 4 2147483648 2147483668 as_d106 Eb_d106 f_d106 rs_d106 (e2_orG 231 83 11 4 2147483648 2147483668 as_d105 Eb_d105 f_d105 rs_d105 (e2_orG 231 83 11 4 2147483648 2147483668 as_d104 Eb_d104 f_d104 rs_d104 (e2_orG 231 83 11 4 2147483648 2147483668 as_d103 Eb_d103 f_d103 rs_d103 (e2_orG 231 83 11 4 2147483648 2147483668 as_d102 Eb_d102 f_d102 rs_d102 (e2_orG 231 83 11 4 2147483648 2147483668 as_d101 Eb_d101 f_d101 rs_d101 (e2_orG 231 83 11 4 2147483648 2147483668 as_d100 Eb_d100 f_d100 rs_d100 (e2_orG 231 83 11 4 2147483648 2147483668 as_d99 Eb_d99 f_d99 rs_d99 (e2_orG 231 83 11 4 2147483648 2147483668 as_d98 Eb_d98 f_d98 rs_d98 (e2_orG 231 83 11 4 2147483648 2147483668 as_d97 Eb_d97 f_d97 rs_d97 (e2_orG 231 83 11 4 2147483648 2147483668 as_d96 Eb_d96 f_d96 rs_d96 (e2_orG 231 83 11 4 2147483648 2147483668 as_d95 Eb_d95 f_d95 rs_d95 (e2_orG 231 83 11 4 2147483648 2147483668 as_d94 Eb_d94 f_d94 rs_d94 (e2_cal S_d121 I_d121 4000 1))))))))))))))))))))) (e2_fin rs_d121) e2x_230 (e2_bpL cl_d121_28) (e2_cutA cl_d121_28) 4000 (e2_seek e2x_230 55) al_d121_28 [] E_d121_28 h_d121_28 = true := by decide +kernel
set_option maxRecDepth 1000000 in
theorem ci_d121_28 : e2_idl 5 (al_d121_28.set 3 (9, 0, 0)) = true := by decide +kernel
set_option maxRecDepth 1000000 in
theorem cj_d121_28 : e2_idh 5 8 h_d121_28 = true := by decide +kernel
set_option maxRecDepth 1000000 in
theorem ck_d121_u120 : e2_cutsB (e2_orG 231 83 11 4 2147483648 2147483668 as_d113 Eb_d113 f_d113 rs_d113 (e2_orG 231 83 11 4 2147483648 2147483668 as_d112 Eb_d112 f_d112 rs_d112 (e2_orG 231 83 11 4 2147483648 2147483668 as_d111 Eb_d111 f_d111 rs_d111 (e2_orG 231 83 11 4 2147483648 2147483668 as_d110 Eb_d110 f_d110 rs_d110 (e2_orG 231 83 11 4 2147483648 2147483668 as_d109 Eb_d109 f_d109 rs_d109 (e2_orG 231 83 11 4 2147483648 2147483668 as_d108 Eb_d108 f_d108 rs_d108 (e2_orG 231 83 11 4 2147483648 2147483668 as_d107 Eb_d107 f_d107 rs_d107 (e2_orG 231 83 11 4 2147483648 2147483668 as_d106 Eb_d106 f_d106 rs_d106 (e2_orG 231 83 11 4 2147483648 2147483668 as_d105 Eb_d105 f_d105 rs_d105 (e2_orG 231 83 11 4 2147483648 2147483668 as_d104 Eb_d104 f_d104 rs_d104 (e2_orG 231 83 11 4 2147483648 2147483668 as_d103 Eb_d103 f_d103 rs_d103 (e2_orG 231 83 11 4 2147483648 2147483668 as_d102 Eb_d102 f_d102 rs_d102 (e2_orG 231 83 11 4 2147483648 2147483668 as_d101 Eb_d101 f_d101 rs_d101 (e2_orG 231 83 11 4 2147483648 2147483668 as_d100 Eb_d100 f_d100 rs_d100 (e2_orG 231 83 11 4 2147483648 2147483668 as_d99 Eb_d99 f_d99 rs_d99 (e2_orG 231 83 11 4 2147483648 2147483668 as_d98 Eb_d98 f_d98 rs_d98 (e2_orG 231 83 11 4 2147483648 2147483668 as_d97 Eb_d97 f_d97 rs_d97 (e2_orG 231 83 11 4 2147483648 2147483668 as_d96 Eb_d96 f_d96 rs_d96 (e2_orG 231 83 11 4 2147483648 2147483668 as_d95 Eb_d95 f_d95 rs_d95 (e2_orG 231 83 11 4 2147483648 2147483668 as_d94 Eb_d94 f_d94 rs_d94 (e2_cal S_d121 I_d121 4000 1))))))))))))))))))))) (e2_fin rs_d121) e2x_230 120 4000 cu_d121_120 = true := by decide +kernel
set_option maxRecDepth 1000000 in
theorem cs_d121 (hen : en_ok) (l : Launch) : e2_smOk l 5 s_d121 := by
  refine e2_conC (H := 4) (C := evd_230) (call := (e2_orG 231 83 11 4 2147483648 2147483668 as_d113 Eb_d113 f_d113 rs_d113 (e2_orG 231 83 11 4 2147483648 2147483668 as_d112 Eb_d112 f_d112 rs_d112 (e2_orG 231 83 11 4 2147483648 2147483668 as_d111 Eb_d111 f_d111 rs_d111 (e2_orG 231 83 11 4 2147483648 2147483668 as_d110 Eb_d110 f_d110 rs_d110 (e2_orG 231 83 11 4 2147483648 2147483668 as_d109 Eb_d109 f_d109 rs_d109 (e2_orG 231 83 11 4 2147483648 2147483668 as_d108 Eb_d108 f_d108 rs_d108 (e2_orG 231 83 11 4 2147483648 2147483668 as_d107 Eb_d107 f_d107 rs_d107 (e2_orG 231 83 11 4 2147483648 2147483668 as_d106 Eb_d106 f_d106 rs_d106 (e2_orG 231 83 11 4 2147483648 2147483668 as_d105 Eb_d105 f_d105 rs_d105 (e2_orG 231 83 11 4 2147483648 2147483668 as_d104 Eb_d104 f_d104 rs_d104 (e2_orG 231 83 11 4 2147483648 2147483668 as_d103 Eb_d103 f_d103 rs_d103 (e2_orG 231 83 11 4 2147483648 2147483668 as_d102 Eb_d102 f_d102 rs_d102 (e2_orG 231 83 11 4 2147483648 2147483668 as_d101 Eb_d101 f_d101 rs_d101 (e2_orG 231 83 11 4 2147483648 2147483668 as_d100 Eb_d100 f_d100 rs_d100 (e2_orG 231 83 11 4 2147483648 2147483668 as_d99 Eb_d99 f_d99 rs_d99 (e2_orG 231 83 11 4 2147483648 2147483668 as_d98 Eb_d98 f_d98 rs_d98 (e2_orG 231 83 11 4 2147483648 2147483668 as_d97 Eb_d97 f_d97 rs_d97 (e2_orG 231 83 11 4 2147483648 2147483668 as_d96 Eb_d96 f_d96 rs_d96 (e2_orG 231 83 11 4 2147483648 2147483668 as_d95 Eb_d95 f_d95 rs_d95 (e2_orG 231 83 11 4 2147483648 2147483668 as_d94 Eb_d94 f_d94 rs_d94 (e2_cal S_d121 I_d121 4000 1)))))))))))))))))))))) ei_230 (fun d hd => (e2_orG_ok (k0 := 231) (a := 83) (j := 11) (n := 4) (lo := 2147483648) (hi := 2147483668) (as0 := as_d113) (Eb := Eb_d113) (f := f_d113) (res := rs_d113) (e2_orG_ok (k0 := 231) (a := 83) (j := 11) (n := 4) (lo := 2147483648) (hi := 2147483668) (as0 := as_d112) (Eb := Eb_d112) (f := f_d112) (res := rs_d112) (e2_orG_ok (k0 := 231) (a := 83) (j := 11) (n := 4) (lo := 2147483648) (hi := 2147483668) (as0 := as_d111) (Eb := Eb_d111) (f := f_d111) (res := rs_d111) (e2_orG_ok (k0 := 231) (a := 83) (j := 11) (n := 4) (lo := 2147483648) (hi := 2147483668) (as0 := as_d110) (Eb := Eb_d110) (f := f_d110) (res := rs_d110) (e2_orG_ok (k0 := 231) (a := 83) (j := 11) (n := 4) (lo := 2147483648) (hi := 2147483668) (as0 := as_d109) (Eb := Eb_d109) (f := f_d109) (res := rs_d109) (e2_orG_ok (k0 := 231) (a := 83) (j := 11) (n := 4) (lo := 2147483648) (hi := 2147483668) (as0 := as_d108) (Eb := Eb_d108) (f := f_d108) (res := rs_d108) (e2_orG_ok (k0 := 231) (a := 83) (j := 11) (n := 4) (lo := 2147483648) (hi := 2147483668) (as0 := as_d107) (Eb := Eb_d107) (f := f_d107) (res := rs_d107) (e2_orG_ok (k0 := 231) (a := 83) (j := 11) (n := 4) (lo := 2147483648) (hi := 2147483668) (as0 := as_d106) (Eb := Eb_d106) (f := f_d106) (res := rs_d106) (e2_orG_ok (k0 := 231) (a := 83) (j := 11) (n := 4) (lo := 2147483648) (hi := 2147483668) (as0 := as_d105) (Eb := Eb_d105) (f := f_d105) (res := rs_d105) (e2_orG_ok (k0 := 231) (a := 83) (j := 11) (n := 4) (lo := 2147483648) (hi := 2147483668) (as0 := as_d104) (Eb := Eb_d104) (f := f_d104) (res := rs_d104) (e2_orG_ok (k0 := 231) (a := 83) (j := 11) (n := 4) (lo := 2147483648) (hi := 2147483668) (as0 := as_d103) (Eb := Eb_d103) (f := f_d103) (res := rs_d103) (e2_orG_ok (k0 := 231) (a := 83) (j := 11) (n := 4) (lo := 2147483648) (hi := 2147483668) (as0 := as_d102) (Eb := Eb_d102) (f := f_d102) (res := rs_d102) (e2_orG_ok (k0 := 231) (a := 83) (j := 11) (n := 4) (lo := 2147483648) (hi := 2147483668) (as0 := as_d101) (Eb := Eb_d101) (f := f_d101) (res := rs_d101) (e2_orG_ok (k0 := 231) (a := 83) (j := 11) (n := 4) (lo := 2147483648) (hi := 2147483668) (as0 := as_d100) (Eb := Eb_d100) (f := f_d100) (res := rs_d100) (e2_orG_ok (k0 := 231) (a := 83) (j := 11) (n := 4) (lo := 2147483648) (hi := 2147483668) (as0 := as_d99) (Eb := Eb_d99) (f := f_d99) (res := rs_d99) (e2_orG_ok (k0 := 231) (a := 83) (j := 11) (n := 4) (lo := 2147483648) (hi := 2147483668) (as0 := as_d98) (Eb := Eb_d98) (f := f_d98) (res := rs_d98) (e2_orG_ok (k0 := 231) (a := 83) (j := 11) (n := 4) (lo := 2147483648) (hi := 2147483668) (as0 := as_d97) (Eb := Eb_d97) (f := f_d97) (res := rs_d97) (e2_orG_ok (k0 := 231) (a := 83) (j := 11) (n := 4) (lo := 2147483648) (hi := 2147483668) (as0 := as_d96) (Eb := Eb_d96) (f := f_d96) (res := rs_d96) (e2_orG_ok (k0 := 231) (a := 83) (j := 11) (n := 4) (lo := 2147483648) (hi := 2147483668) (as0 := as_d95) (Eb := Eb_d95) (f := f_d95) (res := rs_d95) (e2_orG_ok (k0 := 231) (a := 83) (j := 11) (n := 4) (lo := 2147483648) (hi := 2147483668) (as0 := as_d94) (Eb := Eb_d94) (f := f_d94) (res := rs_d94) (e2_cal_ok hen (e2_fa (cs_d44 hen l) (e2_fa (cs_d45 hen l) (e2_fa (cs_d46 hen l) (e2_fa (cs_d47 hen l) (e2_fa (cs_d48 hen l) (e2_fa (cs_d49 hen l) (e2_fa (cs_d50 hen l) (e2_fa (cs_d51 hen l) (e2_fa (cs_d52 hen l) (e2_fa (cs_d53 hen l) (e2_fa (cs_d54 hen l) (e2_fa (cs_d55 hen l) (e2_fa (cs_d56 hen l) (e2_fa (cs_d57 hen l) (e2_fa (cs_d58 hen l) (e2_fa (cs_d59 hen l) (e2_fa (cs_d60 hen l) (e2_fa (cs_d61 hen l) (e2_fa (cs_d62 hen l) (e2_fa (cs_d63 hen l) e2_fz)))))))))))))))))))) (e2_fa ein_216 (e2_fa ein_217 (e2_fa ein_227 e2_fz))) 1 d (by omega)) rfl (by decide +kernel) (fun M hM => (cs_d94 hen l).2 M hM d (by omega)) (e2_okGB_ok cog_d94)) rfl (by decide +kernel) (fun M hM => (cs_d95 hen l).2 M hM d (by omega)) (e2_okGB_ok cog_d95)) rfl (by decide +kernel) (fun M hM => (cs_d96 hen l).2 M hM d (by omega)) (e2_okGB_ok cog_d96)) rfl (by decide +kernel) (fun M hM => (cs_d97 hen l).2 M hM d (by omega)) (e2_okGB_ok cog_d97)) rfl (by decide +kernel) (fun M hM => (cs_d98 hen l).2 M hM d (by omega)) (e2_okGB_ok cog_d98)) rfl (by decide +kernel) (fun M hM => (cs_d99 hen l).2 M hM d (by omega)) (e2_okGB_ok cog_d99)) rfl (by decide +kernel) (fun M hM => (cs_d100 hen l).2 M hM d (by omega)) (e2_okGB_ok cog_d100)) rfl (by decide +kernel) (fun M hM => (cs_d101 hen l).2 M hM d (by omega)) (e2_okGB_ok cog_d101)) rfl (by decide +kernel) (fun M hM => (cs_d102 hen l).2 M hM d (by omega)) (e2_okGB_ok cog_d102)) rfl (by decide +kernel) (fun M hM => (cs_d103 hen l).2 M hM d (by omega)) (e2_okGB_ok cog_d103)) rfl (by decide +kernel) (fun M hM => (cs_d104 hen l).2 M hM d (by omega)) (e2_okGB_ok cog_d104)) rfl (by decide +kernel) (fun M hM => (cs_d105 hen l).2 M hM d (by omega)) (e2_okGB_ok cog_d105)) rfl (by decide +kernel) (fun M hM => (cs_d106 hen l).2 M hM d (by omega)) (e2_okGB_ok cog_d106)) rfl (by decide +kernel) (fun M hM => (cs_d107 hen l).2 M hM d (by omega)) (e2_okGB_ok cog_d107)) rfl (by decide +kernel) (fun M hM => (cs_d108 hen l).2 M hM d (by omega)) (e2_okGB_ok cog_d108)) rfl (by decide +kernel) (fun M hM => (cs_d109 hen l).2 M hM d (by omega)) (e2_okGB_ok cog_d109)) rfl (by decide +kernel) (fun M hM => (cs_d110 hen l).2 M hM d (by omega)) (e2_okGB_ok cog_d110)) rfl (by decide +kernel) (fun M hM => (cs_d111 hen l).2 M hM d (by omega)) (e2_okGB_ok cog_d111)) rfl (by decide +kernel) (fun M hM => (cs_d112 hen l).2 M hM d (by omega)) (e2_okGB_ok cog_d112)) rfl (by decide +kernel) (fun M hM => (cs_d113 hen l).2 M hM d (by omega)) (e2_okGB_ok cog_d113))) (by decide) co_d121 fun M d _ hC hcall p e R s m args below meth c Q D cA A ads r0 ha hl0 => ?_
  have EN_120 := e2_cutS_ok (bp := 120) (cuts := cu_d121_120) (e2_cuts_len hl0 (by decide +kernel)) (e2_cuts_ok hen ha hcall (hC [76, 192, 195]) (X := e2x_230) ex2_230 (e2_cuts_len hl0 (by decide +kernel)) ck_d121_u120)
  have L_27 : e2_gdM M p l e R s m args below meth c Q D cA A ads r0 49 al_d121_27 [] E_d121_27 h_d121_27 := by
    refine e2_indD (u := 4) (j := 2) (lo := 2147483647) (hi := 2147483667) hl0 (by decide) rfl rfl rfl ci_d121_27 cj_d121_27 ?_
    intro r_27 k_27 hk_27 hp_27 hs_27 hn_27
    have hl_27 : r_27.length ≤ 5 := hs_27.len rfl
    have ha_27 := ha.ext hp_27
    have L_28 : e2_gdM M p l e R s m args below meth c Q D cA A ads r_27 55 al_d121_28 [] E_d121_28 h_d121_28 := by
      refine e2_indL (u := 5) (j := 3) (lo := 2147483648) (hi := 2147483657) (b := 5) (dd := 0) hl_27 (by decide) rfl rfl (Or.inr ⟨rfl, rfl⟩) rfl ci_d121_28 cj_d121_28 ?_
      intro r_28 k_28 hk_28 hp_28 hs_28 hn_28
      have hl_28 : r_28.length ≤ 6 := hs_28.len rfl
      have ha_28 := ha_27.ext hp_28
      exact e2_fromM hen ha_28 hcall (e2_cutA_ok (e2_fa (fun al st E h hc => (hn_27 al st E h hc).ext hp_28) (e2_fa (fun al st E h hc => hn_28 al st E h hc) e2_fz))) (hC [76, 192, 195]) (X := e2x_230) ex2_230 55 ck_d121_28
    have EN_28 := e2_entL (u := 5) (j := 3) (lo := 2147483648) (hi := 2147483657) hl_27 rfl rfl rfl ci_d121_28 cj_d121_28 L_28
    exact e2_fromM hen ha_27 hcall (e2_cutA_ok (e2_fa (fun al st E h hc => (EN_120 al st E h hc).ext hp_27) (e2_fa (fun al st E h hc => EN_28 al st E h hc) e2_fz))) (hC [76, 192, 195]) (X := e2x_230) ex2_230 49 ck_d121_27
  have EN_27 := e2_entL (u := 4) (j := 2) (lo := 2147483647) (hi := 2147483667) hl0 rfl rfl rfl ci_d121_27 cj_d121_27 L_27
  have L_26 : e2_gdM M p l e R s m args below meth c Q D cA A ads r0 2 al_d121_26 [] E_d121_26 h_d121_26 := by
    refine e2_indL (u := 4) (j := 2) (lo := 2147483648) (hi := 2147483657) (b := 4) (dd := 0) hl0 (by decide) rfl rfl (Or.inr ⟨rfl, rfl⟩) rfl ci_d121_26 cj_d121_26 ?_
    intro r_26 k_26 hk_26 hp_26 hs_26 hn_26
    have hl_26 : r_26.length ≤ 5 := hs_26.len rfl
    have ha_26 := ha.ext hp_26
    exact e2_fromM hen ha_26 hcall (e2_cutA_ok (e2_fa (fun al st E h hc => hn_26 al st E h hc) (e2_fa (fun al st E h hc => (EN_27 al st E h hc).ext hp_26) e2_fz))) (hC [76, 192, 195]) (X := e2x_230) ex2_230 2 ck_d121_26
  have EN_26 := e2_entL (u := 4) (j := 2) (lo := 2147483648) (hi := 2147483657) hl0 rfl rfl rfl ci_d121_26 cj_d121_26 L_26
  exact e2_from hen ha hcall (e2_cutA_ok (e2_fa (fun al st E h hc => EN_26 al st E h hc) e2_fz)) (hC [76, 192, 195]) (X := e2x_230) ex2_230 0 ck_d121_e
/-! d122 X10_read -/
def as_d122 : List ev_V := [(2, 83, 0), (11, 0, 4294967295)]
def E_d122 : e2_E := [(2147483648, 2147583648, 0, 0), (2147483656, 2147483656, 1, 0), (2147483648, 2147483688, 2, 0), (2147483648, 2147483688, 3, 0)]
def dn1469 : e2_Q7 := (dn974, dn457)
def dn1470 : e2_Q8 := (dn477, dn1469)
noncomputable def f_d122 : ev_H := (dn1470 : e2_Q8)
noncomputable def q_d122_0 : ev_H := (dn1470 : e2_Q8)
noncomputable def rs_d122 : e2_Rs := [((11, 2147483647, 2147483668), q_d122_0)]
noncomputable def s_d122 : e2_Sm := (230, as_d122, E_d122, f_d122, rs_d122)
noncomputable def S_d122 : List e2_Sm := [s_d44, s_d45, s_d46, s_d47, s_d48, s_d49, s_d50, s_d51, s_d52, s_d53, s_d54, s_d55, s_d56, s_d57, s_d58, s_d59, s_d60, s_d61, s_d62, s_d63]
noncomputable def I_d122 : List e2_In := [(216, 1, e2x_216), (217, 1, e2x_217), (227, 2, e2x_227)]
set_option maxRecDepth 1000000 in
theorem co_d122 : e2_okSB E_d122.length as_d122 f_d122 rs_d122 = true := by decide +kernel
def al_d122_26 : List ev_V := [(2, 83, 0), (11, 0, 4294967295), (1, 4, 4294967296), (9, 0, 0), (9, 0, 0)]
def E_d122_26 : e2_E := [(2147483648, 2147583648, 0, 0), (2147483656, 2147483656, 1, 0), (2147483648, 2147483688, 2, 0), (2147483648, 2147483688, 3, 0), (2147483648, 2147483657, 4, 0)]
noncomputable def h_d122_26 : ev_H := (dn1470 : e2_Q8)
def al_d122_27 : List ev_V := [(2, 83, 0), (11, 0, 4294967295), (1, 4, 4294967296), (9, 0, 0), (9, 0, 0)]
def E_d122_27 : e2_E := [(2147483648, 2147583648, 0, 0), (2147483656, 2147483656, 1, 0), (2147483648, 2147483688, 2, 0), (2147483648, 2147483688, 3, 0), (2147483647, 2147483667, 4, 0)]
noncomputable def h_d122_27 : ev_H := (dn1470 : e2_Q8)
def al_d122_28 : List ev_V := [(2, 83, 0), (11, 0, 4294967295), (1, 4, 4294967296), (1, 5, 4294967296), (9, 0, 0)]
def E_d122_28 : e2_E := [(2147483648, 2147583648, 0, 0), (2147483656, 2147483656, 1, 0), (2147483648, 2147483688, 2, 0), (2147483648, 2147483688, 3, 0), (2147483648, 2147483667, 4, 0), (2147483648, 2147483657, 5, 0)]
noncomputable def h_d122_28 : ev_H := (dn1470 : e2_Q8)
def dn1471 : e2_Q7 := (dn974, dn1038)
def dn1472 : e2_Q8 := (dn477, dn1471)
noncomputable def h_d122_0 : ev_H := (dn1472 : e2_Q8)
def dn1473 : e2_Q7 := (dn974, dn1050)
def dn1474 : e2_Q8 := (dn477, dn1473)
noncomputable def h_d122_1 : ev_H := (dn1474 : e2_Q8)
def dn1475 : e2_Q7 := (dn974, dn1058)
def dn1476 : e2_Q8 := (dn477, dn1475)
noncomputable def h_d122_2 : ev_H := (dn1476 : e2_Q8)
def dn1477 : e2_Q7 := (dn974, dn1066)
def dn1478 : e2_Q8 := (dn477, dn1477)
noncomputable def h_d122_3 : ev_H := (dn1478 : e2_Q8)
def dn1479 : e2_Q7 := (dn974, dn1074)
def dn1480 : e2_Q8 := (dn477, dn1479)
noncomputable def h_d122_4 : ev_H := (dn1480 : e2_Q8)
def dn1481 : e2_Q7 := (dn974, dn1082)
def dn1482 : e2_Q8 := (dn477, dn1481)
noncomputable def h_d122_5 : ev_H := (dn1482 : e2_Q8)
def dn1483 : e2_Q7 := (dn974, dn1090)
def dn1484 : e2_Q8 := (dn477, dn1483)
noncomputable def h_d122_6 : ev_H := (dn1484 : e2_Q8)
def dn1485 : e2_Q7 := (dn974, dn1098)
def dn1486 : e2_Q8 := (dn477, dn1485)
noncomputable def h_d122_7 : ev_H := (dn1486 : e2_Q8)
def dn1487 : e2_Q7 := (dn974, dn1106)
def dn1488 : e2_Q8 := (dn477, dn1487)
noncomputable def h_d122_8 : ev_H := (dn1488 : e2_Q8)
def dn1489 : e2_Q7 := (dn974, dn1114)
def dn1490 : e2_Q8 := (dn477, dn1489)
noncomputable def h_d122_9 : ev_H := (dn1490 : e2_Q8)
def dn1491 : e2_Q7 := (dn974, dn1122)
def dn1492 : e2_Q8 := (dn477, dn1491)
noncomputable def h_d122_10 : ev_H := (dn1492 : e2_Q8)
def dn1493 : e2_Q7 := (dn974, dn1130)
def dn1494 : e2_Q8 := (dn477, dn1493)
noncomputable def h_d122_11 : ev_H := (dn1494 : e2_Q8)
def dn1495 : e2_Q7 := (dn974, dn1138)
def dn1496 : e2_Q8 := (dn477, dn1495)
noncomputable def h_d122_12 : ev_H := (dn1496 : e2_Q8)
def dn1497 : e2_Q7 := (dn974, dn1146)
def dn1498 : e2_Q8 := (dn477, dn1497)
noncomputable def h_d122_13 : ev_H := (dn1498 : e2_Q8)
def dn1499 : e2_Q7 := (dn974, dn1154)
def dn1500 : e2_Q8 := (dn477, dn1499)
noncomputable def h_d122_14 : ev_H := (dn1500 : e2_Q8)
def dn1501 : e2_Q7 := (dn974, dn1162)
def dn1502 : e2_Q8 := (dn477, dn1501)
noncomputable def h_d122_15 : ev_H := (dn1502 : e2_Q8)
def dn1503 : e2_Q7 := (dn974, dn1170)
def dn1504 : e2_Q8 := (dn477, dn1503)
noncomputable def h_d122_16 : ev_H := (dn1504 : e2_Q8)
def dn1505 : e2_Q7 := (dn974, dn1178)
def dn1506 : e2_Q8 := (dn477, dn1505)
noncomputable def h_d122_17 : ev_H := (dn1506 : e2_Q8)
def dn1507 : e2_Q7 := (dn974, dn1186)
def dn1508 : e2_Q8 := (dn477, dn1507)
noncomputable def h_d122_18 : ev_H := (dn1508 : e2_Q8)
def dn1509 : e2_Q7 := (dn974, dn1194)
def dn1510 : e2_Q8 := (dn477, dn1509)
noncomputable def h_d122_19 : ev_H := (dn1510 : e2_Q8)
noncomputable def h_d122_20 : ev_H := (dn1470 : e2_Q8)
def dn1511 : e2_Q7 := (dn974, dn1202)
def dn1512 : e2_Q8 := (dn477, dn1511)
noncomputable def h_d122_21 : ev_H := (dn1512 : e2_Q8)
noncomputable def h_d122_22 : ev_H := (dn1512 : e2_Q8)
noncomputable def h_d122_23 : ev_H := (dn1512 : e2_Q8)
noncomputable def h_d122_24 : ev_H := (dn1512 : e2_Q8)
noncomputable def h_d122_25 : ev_H := (dn1512 : e2_Q8)
noncomputable def cu_d122_120 : List e2_Cu := [([(2, 83, 0), (11, 0, 4294967295), (0, 0, 0), (0, 8, 0), (9, 0, 0)], [(2147483648, 2147583648, 0, 0), (2147483656, 2147483656, 1, 0), (2147483648, 2147483688, 2, 0), (2147483648, 2147483688, 3, 0)], h_d122_0),
  ([(2, 83, 0), (11, 0, 4294967295), (0, 1, 0), (11, 2147483648, 2147483656), (11, 2147483647, 2147483655)], [(2147483648, 2147583648, 0, 0), (2147483656, 2147483656, 1, 0), (2147483648, 2147483688, 2, 0), (2147483648, 2147483688, 3, 0)], h_d122_1),
  ([(2, 83, 0), (11, 0, 4294967295), (0, 2, 0), (11, 2147483648, 2147483656), (11, 2147483647, 2147483655)], [(2147483648, 2147583648, 0, 0), (2147483656, 2147483656, 1, 0), (2147483648, 2147483688, 2, 0), (2147483648, 2147483688, 3, 0)], h_d122_2),
  ([(2, 83, 0), (11, 0, 4294967295), (0, 3, 0), (11, 2147483648, 2147483656), (11, 2147483647, 2147483655)], [(2147483648, 2147583648, 0, 0), (2147483656, 2147483656, 1, 0), (2147483648, 2147483688, 2, 0), (2147483648, 2147483688, 3, 0)], h_d122_3),
  ([(2, 83, 0), (11, 0, 4294967295), (0, 4, 0), (11, 2147483648, 2147483656), (11, 2147483647, 2147483655)], [(2147483648, 2147583648, 0, 0), (2147483656, 2147483656, 1, 0), (2147483648, 2147483688, 2, 0), (2147483648, 2147483688, 3, 0)], h_d122_4),
  ([(2, 83, 0), (11, 0, 4294967295), (0, 5, 0), (11, 2147483648, 2147483656), (11, 2147483647, 2147483655)], [(2147483648, 2147583648, 0, 0), (2147483656, 2147483656, 1, 0), (2147483648, 2147483688, 2, 0), (2147483648, 2147483688, 3, 0)], h_d122_5),
  ([(2, 83, 0), (11, 0, 4294967295), (0, 6, 0), (11, 2147483648, 2147483656), (11, 2147483647, 2147483655)], [(2147483648, 2147583648, 0, 0), (2147483656, 2147483656, 1, 0), (2147483648, 2147483688, 2, 0), (2147483648, 2147483688, 3, 0)], h_d122_6),
  ([(2, 83, 0), (11, 0, 4294967295), (0, 7, 0), (11, 2147483648, 2147483656), (11, 2147483647, 2147483655)], [(2147483648, 2147583648, 0, 0), (2147483656, 2147483656, 1, 0), (2147483648, 2147483688, 2, 0), (2147483648, 2147483688, 3, 0)], h_d122_7),
  ([(2, 83, 0), (11, 0, 4294967295), (0, 8, 0), (11, 2147483648, 2147483656), (11, 2147483647, 2147483655)], [(2147483648, 2147583648, 0, 0), (2147483656, 2147483656, 1, 0), (2147483648, 2147483688, 2, 0), (2147483648, 2147483688, 3, 0)], h_d122_8),
  ([(2, 83, 0), (11, 0, 4294967295), (0, 9, 0), (11, 2147483648, 2147483656), (11, 2147483647, 2147483655)], [(2147483648, 2147583648, 0, 0), (2147483656, 2147483656, 1, 0), (2147483648, 2147483688, 2, 0), (2147483648, 2147483688, 3, 0)], h_d122_9),
  ([(2, 83, 0), (11, 0, 4294967295), (0, 10, 0), (11, 2147483648, 2147483656), (11, 2147483647, 2147483655)], [(2147483648, 2147583648, 0, 0), (2147483656, 2147483656, 1, 0), (2147483648, 2147483688, 2, 0), (2147483648, 2147483688, 3, 0)], h_d122_10),
  ([(2, 83, 0), (11, 0, 4294967295), (0, 11, 0), (11, 2147483648, 2147483656), (11, 2147483647, 2147483655)], [(2147483648, 2147583648, 0, 0), (2147483656, 2147483656, 1, 0), (2147483648, 2147483688, 2, 0), (2147483648, 2147483688, 3, 0)], h_d122_11),
  ([(2, 83, 0), (11, 0, 4294967295), (0, 12, 0), (11, 2147483648, 2147483656), (11, 2147483647, 2147483655)], [(2147483648, 2147583648, 0, 0), (2147483656, 2147483656, 1, 0), (2147483648, 2147483688, 2, 0), (2147483648, 2147483688, 3, 0)], h_d122_12),
  ([(2, 83, 0), (11, 0, 4294967295), (0, 13, 0), (11, 2147483648, 2147483656), (11, 2147483647, 2147483655)], [(2147483648, 2147583648, 0, 0), (2147483656, 2147483656, 1, 0), (2147483648, 2147483688, 2, 0), (2147483648, 2147483688, 3, 0)], h_d122_13),
  ([(2, 83, 0), (11, 0, 4294967295), (0, 14, 0), (11, 2147483648, 2147483656), (11, 2147483647, 2147483655)], [(2147483648, 2147583648, 0, 0), (2147483656, 2147483656, 1, 0), (2147483648, 2147483688, 2, 0), (2147483648, 2147483688, 3, 0)], h_d122_14),
  ([(2, 83, 0), (11, 0, 4294967295), (0, 15, 0), (11, 2147483648, 2147483656), (11, 2147483647, 2147483655)], [(2147483648, 2147583648, 0, 0), (2147483656, 2147483656, 1, 0), (2147483648, 2147483688, 2, 0), (2147483648, 2147483688, 3, 0)], h_d122_15),
  ([(2, 83, 0), (11, 0, 4294967295), (0, 16, 0), (11, 2147483648, 2147483656), (11, 2147483647, 2147483655)], [(2147483648, 2147583648, 0, 0), (2147483656, 2147483656, 1, 0), (2147483648, 2147483688, 2, 0), (2147483648, 2147483688, 3, 0)], h_d122_16),
  ([(2, 83, 0), (11, 0, 4294967295), (0, 17, 0), (11, 2147483648, 2147483656), (11, 2147483647, 2147483655)], [(2147483648, 2147583648, 0, 0), (2147483656, 2147483656, 1, 0), (2147483648, 2147483688, 2, 0), (2147483648, 2147483688, 3, 0)], h_d122_17),
  ([(2, 83, 0), (11, 0, 4294967295), (0, 18, 0), (11, 2147483648, 2147483656), (11, 2147483647, 2147483655)], [(2147483648, 2147583648, 0, 0), (2147483656, 2147483656, 1, 0), (2147483648, 2147483688, 2, 0), (2147483648, 2147483688, 3, 0)], h_d122_18),
  ([(2, 83, 0), (11, 0, 4294967295), (0, 19, 0), (11, 2147483648, 2147483656), (11, 2147483647, 2147483655)], [(2147483648, 2147583648, 0, 0), (2147483656, 2147483656, 1, 0), (2147483648, 2147483688, 2, 0), (2147483648, 2147483688, 3, 0)], h_d122_19),
  ([(2, 83, 0), (11, 0, 4294967295), (0, 20, 0), (11, 2147483648, 2147483656), (11, 2147483647, 2147483655)], [(2147483648, 2147583648, 0, 0), (2147483656, 2147483656, 1, 0), (2147483648, 2147483688, 2, 0), (2147483648, 2147483688, 3, 0)], h_d122_20),
  ([(2, 83, 0), (11, 0, 4294967295), (0, 21, 0), (11, 2147483648, 2147483655), (11, 2147483648, 2147483655)], [(2147483648, 2147583648, 0, 0), (2147483656, 2147483656, 1, 0), (2147483648, 2147483688, 2, 0), (2147483648, 2147483688, 3, 0)], h_d122_21),
  ([(2, 83, 0), (11, 0, 4294967295), (0, 22, 0), (11, 2147483648, 2147483655), (11, 2147483648, 2147483655)], [(2147483648, 2147583648, 0, 0), (2147483656, 2147483656, 1, 0), (2147483648, 2147483688, 2, 0), (2147483648, 2147483688, 3, 0)], h_d122_22),
  ([(2, 83, 0), (11, 0, 4294967295), (0, 23, 0), (11, 2147483648, 2147483655), (11, 2147483648, 2147483655)], [(2147483648, 2147583648, 0, 0), (2147483656, 2147483656, 1, 0), (2147483648, 2147483688, 2, 0), (2147483648, 2147483688, 3, 0)], h_d122_23),
  ([(2, 83, 0), (11, 0, 4294967295), (0, 24, 0), (11, 2147483648, 2147483655), (11, 2147483648, 2147483655)], [(2147483648, 2147583648, 0, 0), (2147483656, 2147483656, 1, 0), (2147483648, 2147483688, 2, 0), (2147483648, 2147483688, 3, 0)], h_d122_24),
  ([(2, 83, 0), (11, 0, 4294967295), (0, 25, 0), (11, 2147483648, 2147483655), (11, 2147483648, 2147483655)], [(2147483648, 2147583648, 0, 0), (2147483656, 2147483656, 1, 0), (2147483648, 2147483688, 2, 0), (2147483648, 2147483688, 3, 0)], h_d122_25)]
noncomputable def cl_d122_e : List (Nat × e2_S) := [(2, e2_cutL (al_d122_26.set 2 (11, 2147483648, 2147483657)) 4 (E_d122_26.take 4) h_d122_26)]
set_option maxRecDepth 1000000 in
theorem ck_d122_e : e2_run (e2_orG 231 83 11 4 2147483648 2147483668 as_d113 Eb_d113 f_d113 rs_d113 (e2_orG 231 83 11 4 2147483648 2147483668 as_d112 Eb_d112 f_d112 rs_d112 (e2_orG 231 83 11 4 2147483648 2147483668 as_d111 Eb_d111 f_d111 rs_d111 (e2_orG 231 83 11 4 2147483648 2147483668 as_d110 Eb_d110 f_d110 rs_d110 (e2_orG 231 83 11 4 2147483648 2147483668 as_d109 Eb_d109 f_d109 rs_d109 (e2_orG 231 83 11 4 2147483648 2147483668 as_d108 Eb_d108 f_d108 rs_d108 (e2_orG 231 83 11 4 2147483648 2147483668 as_d107 Eb_d107 f_d107 rs_d107 (e2_orG 231 83 11 4 2147483648 2147483668 as_d106 Eb_d106 f_d106 rs_d106 (e2_orG 231 83 11 4 2147483648 2147483668 as_d105 Eb_d105 f_d105 rs_d105 (e2_orG 231 83 11 4 2147483648 2147483668 as_d104 Eb_d104 f_d104 rs_d104 (e2_orG 231 83 11 4 2147483648 2147483668 as_d103 Eb_d103 f_d103 rs_d103 (e2_orG 231 83 11 4 2147483648 2147483668 as_d102 Eb_d102 f_d102 rs_d102 (e2_orG 231 83 11 4 2147483648 2147483668 as_d101 Eb_d101 f_d101 rs_d101 (e2_orG 231 83 11 4 2147483648 2147483668 as_d100 Eb_d100 f_d100 rs_d100 (e2_orG 231 83 11 4 2147483648 2147483668 as_d99 Eb_d99 f_d99 rs_d99 (e2_orG 231 83 11 4 2147483648 2147483668 as_d98 Eb_d98 f_d98 rs_d98 (e2_orG 231 83 11 4 2147483648 2147483668 as_d97 Eb_d97 f_d97 rs_d97 (e2_orG 231 83 11 4 2147483648 2147483668 as_d96 Eb_d96 f_d96 rs_d96 (e2_orG 231 83 11 4 2147483648 2147483668 as_d95 Eb_d95 f_d95 rs_d95 (e2_orG 231 83 11 4 2147483648 2147483668 as_d94 Eb_d94 f_d94 rs_d94 (e2_cal S_d122 I_d122 4000 1))))))))))))))))))))) (e2_fin rs_d122) e2x_230 (e2_bpL cl_d122_e) (e2_cutA cl_d122_e) 4000 (e2_seek e2x_230 0) (e2_al 5 as_d122) [] E_d122 f_d122 = true := by decide +kernel
noncomputable def cl_d122_26 : List (Nat × e2_S) := [(2, e2_cutL (al_d122_26.set 2 (13, 12, 2147483657)) 4 (E_d122_26.take 4) h_d122_26),
  (49, e2_cutL (al_d122_27.set 2 (11, 2147483647, 2147483667)) 4 (E_d122_27.take 4) h_d122_27)]
set_option maxRecDepth 1000000 in
theorem ck_d122_26 : e2_runM (e2_orG 231 83 11 4 2147483648 2147483668 as_d113 Eb_d113 f_d113 rs_d113 (e2_orG 231 83 11 4 2147483648 2147483668 as_d112 Eb_d112 f_d112 rs_d112 (e2_orG 231 83 11 4 2147483648 2147483668 as_d111 Eb_d111 f_d111 rs_d111 (e2_orG 231 83 11 4 2147483648 2147483668 as_d110 Eb_d110 f_d110 rs_d110 (e2_orG 231 83 11 4 2147483648 2147483668 as_d109 Eb_d109 f_d109 rs_d109 (e2_orG 231 83 11 4 2147483648 2147483668 as_d108 Eb_d108 f_d108 rs_d108 (e2_orG 231 83 11 4 2147483648 2147483668 as_d107 Eb_d107 f_d107 rs_d107 (e2_orG 231 83 11 4 2147483648 2147483668 as_d106 Eb_d106 f_d106 rs_d106 (e2_orG 231 83 11 4 2147483648 2147483668 as_d105 Eb_d105 f_d105 rs_d105 (e2_orG 231 83 11 4 2147483648 2147483668 as_d104 Eb_d104 f_d104 rs_d104 (e2_orG 231 83 11 4 2147483648 2147483668 as_d103 Eb_d103 f_d103 rs_d103 (e2_orG 231 83 11 4 2147483648 2147483668 as_d102 Eb_d102 f_d102 rs_d102 (e2_orG 231 83 11 4 2147483648 2147483668 as_d101 Eb_d101 f_d101 rs_d101 (e2_orG 231 83 11 4 2147483648 2147483668 as_d100 Eb_d100 f_d100 rs_d100 (e2_orG 231 83 11 4 2147483648 2147483668 as_d99 Eb_d99 f_d99 rs_d99 (e2_orG 231 83 11 4 2147483648 2147483668 as_d98 Eb_d98 f_d98 rs_d98 (e2_orG 231 83 11 4 2147483648 2147483668 as_d97 Eb_d97 f_d97 rs_d97 (e2_orG 231 83 11 4 2147483648 2147483668 as_d96 Eb_d96 f_d96 rs_d96 (e2_orG 231 83 11 4 2147483648 2147483668 as_d95 Eb_d95 f_d95 rs_d95 (e2_orG 231 83 11 4 2147483648 2147483668 as_d94 Eb_d94 f_d94 rs_d94 (e2_cal S_d122 I_d122 4000 1))))))))))))))))))))) (e2_fin rs_d122) e2x_230 (e2_bpL cl_d122_26) (e2_cutA cl_d122_26) 4000 (e2_seek e2x_230 2) al_d122_26 [] E_d122_26 h_d122_26 = true := by decide +kernel
set_option maxRecDepth 1000000 in
theorem ci_d122_26 : e2_idl 4 (al_d122_26.set 2 (9, 0, 0)) = true := by decide +kernel
set_option maxRecDepth 1000000 in
theorem cj_d122_26 : e2_idh 4 8 h_d122_26 = true := by decide +kernel
noncomputable def cl_d122_27 : List (Nat × e2_S) := [(120, e2_cutS cu_d122_120),
  (55, e2_cutL (al_d122_28.set 3 (11, 2147483648, 2147483657)) 5 (E_d122_28.take 5) h_d122_28)]
set_option maxRecDepth 1000000 in
theorem ck_d122_27 : e2_runM (e2_orG 231 83 11 4 2147483648 2147483668 as_d113 Eb_d113 f_d113 rs_d113 (e2_orG 231 83 11 4 2147483648 2147483668 as_d112 Eb_d112 f_d112 rs_d112 (e2_orG 231 83 11 4 2147483648 2147483668 as_d111 Eb_d111 f_d111 rs_d111 (e2_orG 231 83 11 4 2147483648 2147483668 as_d110 Eb_d110 f_d110 rs_d110 (e2_orG 231 83 11 4 2147483648 2147483668 as_d109 Eb_d109 f_d109 rs_d109 (e2_orG 231 83 11 4 2147483648 2147483668 as_d108 Eb_d108 f_d108 rs_d108 (e2_orG 231 83 11 4 2147483648 2147483668 as_d107 Eb_d107 f_d107 rs_d107 (e2_orG 231 83 11 4 2147483648 2147483668 as_d106 Eb_d106 f_d106 rs_d106 (e2_orG 231 83 11 4 2147483648 2147483668 as_d105 Eb_d105 f_d105 rs_d105 (e2_orG 231 83 11 4 2147483648 2147483668 as_d104 Eb_d104 f_d104 rs_d104 (e2_orG 231 83 11 4 2147483648 2147483668 as_d103 Eb_d103 f_d103 rs_d103 (e2_orG 231 83 11 4 2147483648 2147483668 as_d102 Eb_d102 f_d102 rs_d102 (e2_orG 231 83 11 4 2147483648 2147483668 as_d101 Eb_d101 f_d101 rs_d101 (e2_orG 231 83 11 4 2147483648 2147483668 as_d100 Eb_d100 f_d100 rs_d100 (e2_orG 231 83 11 4 2147483648 2147483668 as_d99 Eb_d99 f_d99 rs_d99 (e2_orG 231 83 11 4 2147483648 2147483668 as_d98 Eb_d98 f_d98 rs_d98 (e2_orG 231 83 11 4 2147483648 2147483668 as_d97 Eb_d97 f_d97 rs_d97 (e2_orG 231 83 11 4 2147483648 2147483668 as_d96 Eb_d96 f_d96 rs_d96 (e2_orG 231 83 11 4 2147483648 2147483668 as_d95 Eb_d95 f_d95 rs_d95 (e2_orG 231 83 11 4 2147483648 2147483668 as_d94 Eb_d94 f_d94 rs_d94 (e2_cal S_d122 I_d122 4000 1))))))))))))))))))))) (e2_fin rs_d122) e2x_230 (e2_bpL cl_d122_27) (e2_cutA cl_d122_27) 4000 (e2_seek e2x_230 49) al_d122_27 [] E_d122_27 h_d122_27 = true := by decide +kernel
set_option maxRecDepth 1000000 in
theorem ci_d122_27 : e2_idl 4 (al_d122_27.set 2 (9, 0, 0)) = true := by decide +kernel
set_option maxRecDepth 1000000 in
theorem cj_d122_27 : e2_idh 4 8 h_d122_27 = true := by decide +kernel
noncomputable def cl_d122_28 : List (Nat × e2_S) := [(49, e2_cutL (al_d122_27.set 2 (12, 12, 2147483647)) 4 (E_d122_27.take 4) h_d122_27),
  (55, e2_cutL (al_d122_28.set 3 (13, 13, 2147483657)) 5 (E_d122_28.take 5) h_d122_28)]
set_option maxRecDepth 1000000 in
theorem ck_d122_28 : e2_runM (e2_orG 231 83 11 4 2147483648 2147483668 as_d113 Eb_d113 f_d113 rs_d113 (e2_orG 231 83 11 4 2147483648 2147483668 as_d112 Eb_d112 f_d112 rs_d112 (e2_orG 231 83 11 4 2147483648 2147483668 as_d111 Eb_d111 f_d111 rs_d111 (e2_orG 231 83 11 4 2147483648 2147483668 as_d110 Eb_d110 f_d110 rs_d110 (e2_orG 231 83 11 4 2147483648 2147483668 as_d109 Eb_d109 f_d109 rs_d109 (e2_orG 231 83 11 4 2147483648 2147483668 as_d108 Eb_d108 f_d108 rs_d108 (e2_orG 231 83 11 4 2147483648 2147483668 as_d107 Eb_d107 f_d107 rs_d107 (e2_orG 231 83 11 4 2147483648 2147483668 as_d106 Eb_d106 f_d106 rs_d106 (e2_orG 231 83 11 4 2147483648 2147483668 as_d105 Eb_d105 f_d105 rs_d105 (e2_orG 231 83 11 4 2147483648 2147483668 as_d104 Eb_d104 f_d104 rs_d104 (e2_orG 231 83 11 4 2147483648 2147483668 as_d103 Eb_d103 f_d103 rs_d103 (e2_orG 231 83 11 4 2147483648 2147483668 as_d102 Eb_d102 f_d102 rs_d102 (e2_orG 231 83 11 4 2147483648 2147483668 as_d101 Eb_d101 f_d101 rs_d101 (e2_orG 231 83 11 4 2147483648 2147483668 as_d100 Eb_d100 f_d100 rs_d100 (e2_orG 231 83 11 4 2147483648 2147483668 as_d99 Eb_d99 f_d99 rs_d99 (e2_orG 231 83 11 4 2147483648 2147483668 as_d98 Eb_d98 f_d98 rs_d98 (e2_orG 231 83 11 4 2147483648 2147483668 as_d97 Eb_d97 f_d97 rs_d97 (e2_orG 231 83 11 4 2147483648 2147483668 as_d96 Eb_d96 f_d96 rs_d96 (e2_orG 231 83 11 4 2147483648 2147483668 as_d95 Eb_d95 f_d95 rs_d95 (e2_orG 231 83 11 4 2147483648 2147483668 as_d94 Eb_d94 f_d94 rs_d94 (e2_cal S_d122 I_d122 4000 1))))))))))))))))))))) (e2_fin rs_d122) e2x_230 (e2_bpL cl_d122_28) (e2_cutA cl_d122_28) 4000 (e2_seek e2x_230 55) al_d122_28 [] E_d122_28 h_d122_28 = true := by decide +kernel
set_option maxRecDepth 1000000 in
theorem ci_d122_28 : e2_idl 5 (al_d122_28.set 3 (9, 0, 0)) = true := by decide +kernel
set_option maxRecDepth 1000000 in
theorem cj_d122_28 : e2_idh 5 8 h_d122_28 = true := by decide +kernel
set_option maxRecDepth 1000000 in
theorem ck_d122_u120 : e2_cutsB (e2_orG 231 83 11 4 2147483648 2147483668 as_d113 Eb_d113 f_d113 rs_d113 (e2_orG 231 83 11 4 2147483648 2147483668 as_d112 Eb_d112 f_d112 rs_d112 (e2_orG 231 83 11 4 2147483648 2147483668 as_d111 Eb_d111 f_d111 rs_d111 (e2_orG 231 83 11 4 2147483648 2147483668 as_d110 Eb_d110 f_d110 rs_d110 (e2_orG 231 83 11 4 2147483648 2147483668 as_d109 Eb_d109 f_d109 rs_d109 (e2_orG 231 83 11 4 2147483648 2147483668 as_d108 Eb_d108 f_d108 rs_d108 (e2_orG 231 83 11 4 2147483648 2147483668 as_d107 Eb_d107 f_d107 rs_d107 (e2_orG 231 83 11 4 2147483648 2147483668 as_d106 Eb_d106 f_d106 rs_d106 (e2_orG 231 83 11 4 2147483648 2147483668 as_d105 Eb_d105 f_d105 rs_d105 (e2_orG 231 83 11 4 2147483648 2147483668 as_d104 Eb_d104 f_d104 rs_d104 (e2_orG 231 83 11 4 2147483648 2147483668 as_d103 Eb_d103 f_d103 rs_d103 (e2_orG 231 83 11 4 2147483648 2147483668 as_d102 Eb_d102 f_d102 rs_d102 (e2_orG 231 83 11 4 2147483648 2147483668 as_d101 Eb_d101 f_d101 rs_d101 (e2_orG 231 83 11 4 2147483648 2147483668 as_d100 Eb_d100 f_d100 rs_d100 (e2_orG 231 83 11 4 2147483648 2147483668 as_d99 Eb_d99 f_d99 rs_d99 (e2_orG 231 83 11 4 2147483648 2147483668 as_d98 Eb_d98 f_d98 rs_d98 (e2_orG 231 83 11 4 2147483648 2147483668 as_d97 Eb_d97 f_d97 rs_d97 (e2_orG 231 83 11 4 2147483648 2147483668 as_d96 Eb_d96 f_d96 rs_d96 (e2_orG 231 83 11 4 2147483648 2147483668 as_d95 Eb_d95 f_d95 rs_d95 (e2_orG 231 83 11 4 2147483648 2147483668 as_d94 Eb_d94 f_d94 rs_d94 (e2_cal S_d122 I_d122 4000 1))))))))))))))))))))) (e2_fin rs_d122) e2x_230 120 4000 cu_d122_120 = true := by decide +kernel
set_option maxRecDepth 1000000 in
theorem cs_d122 (hen : en_ok) (l : Launch) : e2_smOk l 5 s_d122 := by
  refine e2_conC (H := 4) (C := evd_230) (call := (e2_orG 231 83 11 4 2147483648 2147483668 as_d113 Eb_d113 f_d113 rs_d113 (e2_orG 231 83 11 4 2147483648 2147483668 as_d112 Eb_d112 f_d112 rs_d112 (e2_orG 231 83 11 4 2147483648 2147483668 as_d111 Eb_d111 f_d111 rs_d111 (e2_orG 231 83 11 4 2147483648 2147483668 as_d110 Eb_d110 f_d110 rs_d110 (e2_orG 231 83 11 4 2147483648 2147483668 as_d109 Eb_d109 f_d109 rs_d109 (e2_orG 231 83 11 4 2147483648 2147483668 as_d108 Eb_d108 f_d108 rs_d108 (e2_orG 231 83 11 4 2147483648 2147483668 as_d107 Eb_d107 f_d107 rs_d107 (e2_orG 231 83 11 4 2147483648 2147483668 as_d106 Eb_d106 f_d106 rs_d106 (e2_orG 231 83 11 4 2147483648 2147483668 as_d105 Eb_d105 f_d105 rs_d105 (e2_orG 231 83 11 4 2147483648 2147483668 as_d104 Eb_d104 f_d104 rs_d104 (e2_orG 231 83 11 4 2147483648 2147483668 as_d103 Eb_d103 f_d103 rs_d103 (e2_orG 231 83 11 4 2147483648 2147483668 as_d102 Eb_d102 f_d102 rs_d102 (e2_orG 231 83 11 4 2147483648 2147483668 as_d101 Eb_d101 f_d101 rs_d101 (e2_orG 231 83 11 4 2147483648 2147483668 as_d100 Eb_d100 f_d100 rs_d100 (e2_orG 231 83 11 4 2147483648 2147483668 as_d99 Eb_d99 f_d99 rs_d99 (e2_orG 231 83 11 4 2147483648 2147483668 as_d98 Eb_d98 f_d98 rs_d98 (e2_orG 231 83 11 4 2147483648 2147483668 as_d97 Eb_d97 f_d97 rs_d97 (e2_orG 231 83 11 4 2147483648 2147483668 as_d96 Eb_d96 f_d96 rs_d96 (e2_orG 231 83 11 4 2147483648 2147483668 as_d95 Eb_d95 f_d95 rs_d95 (e2_orG 231 83 11 4 2147483648 2147483668 as_d94 Eb_d94 f_d94 rs_d94 (e2_cal S_d122 I_d122 4000 1)))))))))))))))))))))) ei_230 (fun d hd => (e2_orG_ok (k0 := 231) (a := 83) (j := 11) (n := 4) (lo := 2147483648) (hi := 2147483668) (as0 := as_d113) (Eb := Eb_d113) (f := f_d113) (res := rs_d113) (e2_orG_ok (k0 := 231) (a := 83) (j := 11) (n := 4) (lo := 2147483648) (hi := 2147483668) (as0 := as_d112) (Eb := Eb_d112) (f := f_d112) (res := rs_d112) (e2_orG_ok (k0 := 231) (a := 83) (j := 11) (n := 4) (lo := 2147483648) (hi := 2147483668) (as0 := as_d111) (Eb := Eb_d111) (f := f_d111) (res := rs_d111) (e2_orG_ok (k0 := 231) (a := 83) (j := 11) (n := 4) (lo := 2147483648) (hi := 2147483668) (as0 := as_d110) (Eb := Eb_d110) (f := f_d110) (res := rs_d110) (e2_orG_ok (k0 := 231) (a := 83) (j := 11) (n := 4) (lo := 2147483648) (hi := 2147483668) (as0 := as_d109) (Eb := Eb_d109) (f := f_d109) (res := rs_d109) (e2_orG_ok (k0 := 231) (a := 83) (j := 11) (n := 4) (lo := 2147483648) (hi := 2147483668) (as0 := as_d108) (Eb := Eb_d108) (f := f_d108) (res := rs_d108) (e2_orG_ok (k0 := 231) (a := 83) (j := 11) (n := 4) (lo := 2147483648) (hi := 2147483668) (as0 := as_d107) (Eb := Eb_d107) (f := f_d107) (res := rs_d107) (e2_orG_ok (k0 := 231) (a := 83) (j := 11) (n := 4) (lo := 2147483648) (hi := 2147483668) (as0 := as_d106) (Eb := Eb_d106) (f := f_d106) (res := rs_d106) (e2_orG_ok (k0 := 231) (a := 83) (j := 11) (n := 4) (lo := 2147483648) (hi := 2147483668) (as0 := as_d105) (Eb := Eb_d105) (f := f_d105) (res := rs_d105) (e2_orG_ok (k0 := 231) (a := 83) (j := 11) (n := 4) (lo := 2147483648) (hi := 2147483668) (as0 := as_d104) (Eb := Eb_d104) (f := f_d104) (res := rs_d104) (e2_orG_ok (k0 := 231) (a := 83) (j := 11) (n := 4) (lo := 2147483648) (hi := 2147483668) (as0 := as_d103) (Eb := Eb_d103) (f := f_d103) (res := rs_d103) (e2_orG_ok (k0 := 231) (a := 83) (j := 11) (n := 4) (lo := 2147483648) (hi := 2147483668) (as0 := as_d102) (Eb := Eb_d102) (f := f_d102) (res := rs_d102) (e2_orG_ok (k0 := 231) (a := 83) (j := 11) (n := 4) (lo := 2147483648) (hi := 2147483668) (as0 := as_d101) (Eb := Eb_d101) (f := f_d101) (res := rs_d101) (e2_orG_ok (k0 := 231) (a := 83) (j := 11) (n := 4) (lo := 2147483648) (hi := 2147483668) (as0 := as_d100) (Eb := Eb_d100) (f := f_d100) (res := rs_d100) (e2_orG_ok (k0 := 231) (a := 83) (j := 11) (n := 4) (lo := 2147483648) (hi := 2147483668) (as0 := as_d99) (Eb := Eb_d99) (f := f_d99) (res := rs_d99) (e2_orG_ok (k0 := 231) (a := 83) (j := 11) (n := 4) (lo := 2147483648) (hi := 2147483668) (as0 := as_d98) (Eb := Eb_d98) (f := f_d98) (res := rs_d98) (e2_orG_ok (k0 := 231) (a := 83) (j := 11) (n := 4) (lo := 2147483648) (hi := 2147483668) (as0 := as_d97) (Eb := Eb_d97) (f := f_d97) (res := rs_d97) (e2_orG_ok (k0 := 231) (a := 83) (j := 11) (n := 4) (lo := 2147483648) (hi := 2147483668) (as0 := as_d96) (Eb := Eb_d96) (f := f_d96) (res := rs_d96) (e2_orG_ok (k0 := 231) (a := 83) (j := 11) (n := 4) (lo := 2147483648) (hi := 2147483668) (as0 := as_d95) (Eb := Eb_d95) (f := f_d95) (res := rs_d95) (e2_orG_ok (k0 := 231) (a := 83) (j := 11) (n := 4) (lo := 2147483648) (hi := 2147483668) (as0 := as_d94) (Eb := Eb_d94) (f := f_d94) (res := rs_d94) (e2_cal_ok hen (e2_fa (cs_d44 hen l) (e2_fa (cs_d45 hen l) (e2_fa (cs_d46 hen l) (e2_fa (cs_d47 hen l) (e2_fa (cs_d48 hen l) (e2_fa (cs_d49 hen l) (e2_fa (cs_d50 hen l) (e2_fa (cs_d51 hen l) (e2_fa (cs_d52 hen l) (e2_fa (cs_d53 hen l) (e2_fa (cs_d54 hen l) (e2_fa (cs_d55 hen l) (e2_fa (cs_d56 hen l) (e2_fa (cs_d57 hen l) (e2_fa (cs_d58 hen l) (e2_fa (cs_d59 hen l) (e2_fa (cs_d60 hen l) (e2_fa (cs_d61 hen l) (e2_fa (cs_d62 hen l) (e2_fa (cs_d63 hen l) e2_fz)))))))))))))))))))) (e2_fa ein_216 (e2_fa ein_217 (e2_fa ein_227 e2_fz))) 1 d (by omega)) rfl (by decide +kernel) (fun M hM => (cs_d94 hen l).2 M hM d (by omega)) (e2_okGB_ok cog_d94)) rfl (by decide +kernel) (fun M hM => (cs_d95 hen l).2 M hM d (by omega)) (e2_okGB_ok cog_d95)) rfl (by decide +kernel) (fun M hM => (cs_d96 hen l).2 M hM d (by omega)) (e2_okGB_ok cog_d96)) rfl (by decide +kernel) (fun M hM => (cs_d97 hen l).2 M hM d (by omega)) (e2_okGB_ok cog_d97)) rfl (by decide +kernel) (fun M hM => (cs_d98 hen l).2 M hM d (by omega)) (e2_okGB_ok cog_d98)) rfl (by decide +kernel) (fun M hM => (cs_d99 hen l).2 M hM d (by omega)) (e2_okGB_ok cog_d99)) rfl (by decide +kernel) (fun M hM => (cs_d100 hen l).2 M hM d (by omega)) (e2_okGB_ok cog_d100)) rfl (by decide +kernel) (fun M hM => (cs_d101 hen l).2 M hM d (by omega)) (e2_okGB_ok cog_d101)) rfl (by decide +kernel) (fun M hM => (cs_d102 hen l).2 M hM d (by omega)) (e2_okGB_ok cog_d102)) rfl (by decide +kernel) (fun M hM => (cs_d103 hen l).2 M hM d (by omega)) (e2_okGB_ok cog_d103)) rfl (by decide +kernel) (fun M hM => (cs_d104 hen l).2 M hM d (by omega)) (e2_okGB_ok cog_d104)) rfl (by decide +kernel) (fun M hM => (cs_d105 hen l).2 M hM d (by omega)) (e2_okGB_ok cog_d105)) rfl (by decide +kernel) (fun M hM => (cs_d106 hen l).2 M hM d (by omega)) (e2_okGB_ok cog_d106)) rfl (by decide +kernel) (fun M hM => (cs_d107 hen l).2 M hM d (by omega)) (e2_okGB_ok cog_d107)) rfl (by decide +kernel) (fun M hM => (cs_d108 hen l).2 M hM d (by omega)) (e2_okGB_ok cog_d108)) rfl (by decide +kernel) (fun M hM => (cs_d109 hen l).2 M hM d (by omega)) (e2_okGB_ok cog_d109)) rfl (by decide +kernel) (fun M hM => (cs_d110 hen l).2 M hM d (by omega)) (e2_okGB_ok cog_d110)) rfl (by decide +kernel) (fun M hM => (cs_d111 hen l).2 M hM d (by omega)) (e2_okGB_ok cog_d111)) rfl (by decide +kernel) (fun M hM => (cs_d112 hen l).2 M hM d (by omega)) (e2_okGB_ok cog_d112)) rfl (by decide +kernel) (fun M hM => (cs_d113 hen l).2 M hM d (by omega)) (e2_okGB_ok cog_d113))) (by decide) co_d122 fun M d _ hC hcall p e R s m args below meth c Q D cA A ads r0 ha hl0 => ?_
  have EN_120 := e2_cutS_ok (bp := 120) (cuts := cu_d122_120) (e2_cuts_len hl0 (by decide +kernel)) (e2_cuts_ok hen ha hcall (hC [76, 192, 195]) (X := e2x_230) ex2_230 (e2_cuts_len hl0 (by decide +kernel)) ck_d122_u120)
  have L_27 : e2_gdM M p l e R s m args below meth c Q D cA A ads r0 49 al_d122_27 [] E_d122_27 h_d122_27 := by
    refine e2_indD (u := 4) (j := 2) (lo := 2147483647) (hi := 2147483667) hl0 (by decide) rfl rfl rfl ci_d122_27 cj_d122_27 ?_
    intro r_27 k_27 hk_27 hp_27 hs_27 hn_27
    have hl_27 : r_27.length ≤ 5 := hs_27.len rfl
    have ha_27 := ha.ext hp_27
    have L_28 : e2_gdM M p l e R s m args below meth c Q D cA A ads r_27 55 al_d122_28 [] E_d122_28 h_d122_28 := by
      refine e2_indL (u := 5) (j := 3) (lo := 2147483648) (hi := 2147483657) (b := 5) (dd := 0) hl_27 (by decide) rfl rfl (Or.inr ⟨rfl, rfl⟩) rfl ci_d122_28 cj_d122_28 ?_
      intro r_28 k_28 hk_28 hp_28 hs_28 hn_28
      have hl_28 : r_28.length ≤ 6 := hs_28.len rfl
      have ha_28 := ha_27.ext hp_28
      exact e2_fromM hen ha_28 hcall (e2_cutA_ok (e2_fa (fun al st E h hc => (hn_27 al st E h hc).ext hp_28) (e2_fa (fun al st E h hc => hn_28 al st E h hc) e2_fz))) (hC [76, 192, 195]) (X := e2x_230) ex2_230 55 ck_d122_28
    have EN_28 := e2_entL (u := 5) (j := 3) (lo := 2147483648) (hi := 2147483657) hl_27 rfl rfl rfl ci_d122_28 cj_d122_28 L_28
    exact e2_fromM hen ha_27 hcall (e2_cutA_ok (e2_fa (fun al st E h hc => (EN_120 al st E h hc).ext hp_27) (e2_fa (fun al st E h hc => EN_28 al st E h hc) e2_fz))) (hC [76, 192, 195]) (X := e2x_230) ex2_230 49 ck_d122_27
  have EN_27 := e2_entL (u := 4) (j := 2) (lo := 2147483647) (hi := 2147483667) hl0 rfl rfl rfl ci_d122_27 cj_d122_27 L_27
  have L_26 : e2_gdM M p l e R s m args below meth c Q D cA A ads r0 2 al_d122_26 [] E_d122_26 h_d122_26 := by
    refine e2_indL (u := 4) (j := 2) (lo := 2147483648) (hi := 2147483657) (b := 4) (dd := 0) hl0 (by decide) rfl rfl (Or.inr ⟨rfl, rfl⟩) rfl ci_d122_26 cj_d122_26 ?_
    intro r_26 k_26 hk_26 hp_26 hs_26 hn_26
    have hl_26 : r_26.length ≤ 5 := hs_26.len rfl
    have ha_26 := ha.ext hp_26
    exact e2_fromM hen ha_26 hcall (e2_cutA_ok (e2_fa (fun al st E h hc => hn_26 al st E h hc) (e2_fa (fun al st E h hc => (EN_27 al st E h hc).ext hp_26) e2_fz))) (hC [76, 192, 195]) (X := e2x_230) ex2_230 2 ck_d122_26
  have EN_26 := e2_entL (u := 4) (j := 2) (lo := 2147483648) (hi := 2147483657) hl0 rfl rfl rfl ci_d122_26 cj_d122_26 L_26
  exact e2_from hen ha hcall (e2_cutA_ok (e2_fa (fun al st E h hc => EN_26 al st E h hc) e2_fz)) (hC [76, 192, 195]) (X := e2x_230) ex2_230 0 ck_d122_e
/-! d123 X10_read, by the values of the second variable -/
def as_d123 : List ev_V := [(2, 83, 0), (11, 0, 4294967295)]
def E_d123 : e2_E := [(2147483648, 2147583648, 0, 0), (2147483648, 2147483656, 1, 0), (2147483648, 2147483688, 2, 0), (2147483648, 2147483688, 3, 0)]
def dn1513 : e2_Q7 := (dn1019, dn457)
def dn1514 : e2_Q8 := (dn477, dn1513)
noncomputable def f_d123 : ev_H := (dn1514 : e2_Q8)
noncomputable def q_d123_0 : ev_H := (dn1514 : e2_Q8)
noncomputable def rs_d123 : e2_Rs := [((11, 2147483647, 2147483668), q_d123_0)]
noncomputable def s_d123 : e2_Sm := (230, as_d123, E_d123, f_d123, rs_d123)
set_option maxRecDepth 1000000 in
theorem co_d123 : e2_okSB E_d123.length as_d123 f_d123 rs_d123 = true := by decide +kernel
set_option maxRecDepth 1000000 in
theorem cp_d123_0 : e2_if (e2_lle (e2_vl9 (E_d123.set 1 (2147483648, 2147483648, 1, 0))) s_d114.2.1 as_d123) (e2_if (e2_pre s_d114.2.2.1.length s_d114.2.2.1 0 (E_d123.set 1 (2147483648, 2147483648, 1, 0))) (e2_if (e2_hlf (E_d123.set 1 (2147483648, 2147483648, 1, 0)) 8 s_d114.2.2.2.1 f_d123) (e2_allR s_d114.2.2.2.2 fun q => e2_fin rs_d123 q.1 (E_d123.set 1 (2147483648, 2147483648, 1, 0)) (e2_mrg 8 s_d114.2.2.2.1 q.2 f_d123)))) = true := by decide +kernel
set_option maxRecDepth 1000000 in
theorem cp_d123_1 : e2_if (e2_lle (e2_vl9 (E_d123.set 1 (2147483649, 2147483649, 1, 0))) s_d115.2.1 as_d123) (e2_if (e2_pre s_d115.2.2.1.length s_d115.2.2.1 0 (E_d123.set 1 (2147483649, 2147483649, 1, 0))) (e2_if (e2_hlf (E_d123.set 1 (2147483649, 2147483649, 1, 0)) 8 s_d115.2.2.2.1 f_d123) (e2_allR s_d115.2.2.2.2 fun q => e2_fin rs_d123 q.1 (E_d123.set 1 (2147483649, 2147483649, 1, 0)) (e2_mrg 8 s_d115.2.2.2.1 q.2 f_d123)))) = true := by decide +kernel
set_option maxRecDepth 1000000 in
theorem cp_d123_2 : e2_if (e2_lle (e2_vl9 (E_d123.set 1 (2147483650, 2147483650, 1, 0))) s_d116.2.1 as_d123) (e2_if (e2_pre s_d116.2.2.1.length s_d116.2.2.1 0 (E_d123.set 1 (2147483650, 2147483650, 1, 0))) (e2_if (e2_hlf (E_d123.set 1 (2147483650, 2147483650, 1, 0)) 8 s_d116.2.2.2.1 f_d123) (e2_allR s_d116.2.2.2.2 fun q => e2_fin rs_d123 q.1 (E_d123.set 1 (2147483650, 2147483650, 1, 0)) (e2_mrg 8 s_d116.2.2.2.1 q.2 f_d123)))) = true := by decide +kernel
set_option maxRecDepth 1000000 in
theorem cp_d123_3 : e2_if (e2_lle (e2_vl9 (E_d123.set 1 (2147483651, 2147483651, 1, 0))) s_d117.2.1 as_d123) (e2_if (e2_pre s_d117.2.2.1.length s_d117.2.2.1 0 (E_d123.set 1 (2147483651, 2147483651, 1, 0))) (e2_if (e2_hlf (E_d123.set 1 (2147483651, 2147483651, 1, 0)) 8 s_d117.2.2.2.1 f_d123) (e2_allR s_d117.2.2.2.2 fun q => e2_fin rs_d123 q.1 (E_d123.set 1 (2147483651, 2147483651, 1, 0)) (e2_mrg 8 s_d117.2.2.2.1 q.2 f_d123)))) = true := by decide +kernel
set_option maxRecDepth 1000000 in
theorem cp_d123_4 : e2_if (e2_lle (e2_vl9 (E_d123.set 1 (2147483652, 2147483652, 1, 0))) s_d118.2.1 as_d123) (e2_if (e2_pre s_d118.2.2.1.length s_d118.2.2.1 0 (E_d123.set 1 (2147483652, 2147483652, 1, 0))) (e2_if (e2_hlf (E_d123.set 1 (2147483652, 2147483652, 1, 0)) 8 s_d118.2.2.2.1 f_d123) (e2_allR s_d118.2.2.2.2 fun q => e2_fin rs_d123 q.1 (E_d123.set 1 (2147483652, 2147483652, 1, 0)) (e2_mrg 8 s_d118.2.2.2.1 q.2 f_d123)))) = true := by decide +kernel
set_option maxRecDepth 1000000 in
theorem cp_d123_5 : e2_if (e2_lle (e2_vl9 (E_d123.set 1 (2147483653, 2147483653, 1, 0))) s_d119.2.1 as_d123) (e2_if (e2_pre s_d119.2.2.1.length s_d119.2.2.1 0 (E_d123.set 1 (2147483653, 2147483653, 1, 0))) (e2_if (e2_hlf (E_d123.set 1 (2147483653, 2147483653, 1, 0)) 8 s_d119.2.2.2.1 f_d123) (e2_allR s_d119.2.2.2.2 fun q => e2_fin rs_d123 q.1 (E_d123.set 1 (2147483653, 2147483653, 1, 0)) (e2_mrg 8 s_d119.2.2.2.1 q.2 f_d123)))) = true := by decide +kernel
set_option maxRecDepth 1000000 in
theorem cp_d123_6 : e2_if (e2_lle (e2_vl9 (E_d123.set 1 (2147483654, 2147483654, 1, 0))) s_d120.2.1 as_d123) (e2_if (e2_pre s_d120.2.2.1.length s_d120.2.2.1 0 (E_d123.set 1 (2147483654, 2147483654, 1, 0))) (e2_if (e2_hlf (E_d123.set 1 (2147483654, 2147483654, 1, 0)) 8 s_d120.2.2.2.1 f_d123) (e2_allR s_d120.2.2.2.2 fun q => e2_fin rs_d123 q.1 (E_d123.set 1 (2147483654, 2147483654, 1, 0)) (e2_mrg 8 s_d120.2.2.2.1 q.2 f_d123)))) = true := by decide +kernel
set_option maxRecDepth 1000000 in
theorem cp_d123_7 : e2_if (e2_lle (e2_vl9 (E_d123.set 1 (2147483655, 2147483655, 1, 0))) s_d121.2.1 as_d123) (e2_if (e2_pre s_d121.2.2.1.length s_d121.2.2.1 0 (E_d123.set 1 (2147483655, 2147483655, 1, 0))) (e2_if (e2_hlf (E_d123.set 1 (2147483655, 2147483655, 1, 0)) 8 s_d121.2.2.2.1 f_d123) (e2_allR s_d121.2.2.2.2 fun q => e2_fin rs_d123 q.1 (E_d123.set 1 (2147483655, 2147483655, 1, 0)) (e2_mrg 8 s_d121.2.2.2.1 q.2 f_d123)))) = true := by decide +kernel
set_option maxRecDepth 1000000 in
theorem cp_d123_8 : e2_if (e2_lle (e2_vl9 (E_d123.set 1 (2147483656, 2147483656, 1, 0))) s_d122.2.1 as_d123) (e2_if (e2_pre s_d122.2.2.1.length s_d122.2.2.1 0 (E_d123.set 1 (2147483656, 2147483656, 1, 0))) (e2_if (e2_hlf (E_d123.set 1 (2147483656, 2147483656, 1, 0)) 8 s_d122.2.2.2.1 f_d123) (e2_allR s_d122.2.2.2.2 fun q => e2_fin rs_d123 q.1 (E_d123.set 1 (2147483656, 2147483656, 1, 0)) (e2_mrg 8 s_d122.2.2.2.1 q.2 f_d123)))) = true := by decide +kernel
theorem cs_d123 (hen : en_ok) (l : Launch) : e2_smOk l 5 s_d123 := by
  refine ⟨e2_okSB_ok co_d123, fun M hM d hd => e2_Met.split1 (E := E_d123) (lo := 2147483648) (hi := 2147483656) rfl fun s h1 h2 => ?_⟩
  have hs : s = 2147483648 ∨ s = 2147483649 ∨ s = 2147483650 ∨ s = 2147483651 ∨ s = 2147483652 ∨ s = 2147483653 ∨ s = 2147483654 ∨ s = 2147483655 ∨ s = 2147483656 := by omega
  rcases hs with rfl | rfl | rfl | rfl | rfl | rfl | rfl | rfl | rfl
  · exact e2_part1 (s := s_d114) (cs_d114 hen l) hM (Nat.le_trans (by decide) hd) cp_d123_0
  · exact e2_part1 (s := s_d115) (cs_d115 hen l) hM (Nat.le_trans (by decide) hd) cp_d123_1
  · exact e2_part1 (s := s_d116) (cs_d116 hen l) hM (Nat.le_trans (by decide) hd) cp_d123_2
  · exact e2_part1 (s := s_d117) (cs_d117 hen l) hM (Nat.le_trans (by decide) hd) cp_d123_3
  · exact e2_part1 (s := s_d118) (cs_d118 hen l) hM (Nat.le_trans (by decide) hd) cp_d123_4
  · exact e2_part1 (s := s_d119) (cs_d119 hen l) hM (Nat.le_trans (by decide) hd) cp_d123_5
  · exact e2_part1 (s := s_d120) (cs_d120 hen l) hM (Nat.le_trans (by decide) hd) cp_d123_6
  · exact e2_part1 (s := s_d121) (cs_d121 hen l) hM (Nat.le_trans (by decide) hd) cp_d123_7
  · exact e2_part1 (s := s_d122) (cs_d122 hen l) hM (Nat.le_trans (by decide) hd) cp_d123_8
