/-! CONTRACTS d, printed by a program -/
/-! d44 X10_layFrom -/
def as_d44 : List ev_V := [(2, 83, 0), (0, 19, 0), (11, 2147483648, 2147483656), (11, 0, 4294967295)]
def E_d44 : e2_E := [(2147483648, 2147583648, 0, 0), (2147483648, 2147483656, 1, 0), (2147483648, 2147483688, 2, 0), (2147483648, 2147483688, 3, 0)]
def dn454 : e2_Q3 := (dn256, dn447)
def dn455 : e2_Q4 := (dn196, dn454)
def dn456 : e2_Q5 := (dn455, dn219)
def dn457 : e2_Q6 := (dn456, dn251)
def dn458 : e2_Q7 := (dn389, dn457)
def dn459 : e2_Q8 := (dn446, dn458)
noncomputable def f_d44 : ev_H := (dn459 : e2_Q8)
noncomputable def q_d44_0 : ev_H := (dn459 : e2_Q8)
noncomputable def rs_d44 : e2_Rs := [((9, 0, 0), q_d44_0)]
noncomputable def s_d44 : e2_Sm := (229, as_d44, E_d44, f_d44, rs_d44)
noncomputable def S_d44 : List e2_Sm := []
noncomputable def I_d44 : List e2_In := [(215, 2, e2x_215), (216, 1, e2x_216), (217, 1, e2x_217), (225, 5, e2x_225), (226, 3, e2x_226), (227, 2, e2x_227), (228, 3, e2x_228)]
set_option maxRecDepth 1000000 in
theorem co_d44 : e2_okSB E_d44.length as_d44 f_d44 rs_d44 = true := by decide +kernel
def al_d44_0 : List ev_V := [(2, 83, 0), (0, 19, 0), (11, 2147483648, 2147483656), (11, 0, 4294967295), (11, 2147483819, 2147483827), (1, 4, 4294967296), (9, 0, 0), (9, 0, 0)]
def E_d44_0 : e2_E := [(2147483648, 2147583648, 0, 0), (2147483648, 2147483656, 1, 0), (2147483648, 2147483688, 2, 0), (2147483648, 2147483688, 3, 0), (2147483648, 2147483656, 4, 0)]
noncomputable def h_d44_0 : ev_H := (dn459 : e2_Q8)
noncomputable def cl_d44_e : List (Nat × e2_S) := [(28, e2_cutL (al_d44_0.set 5 (11, 2147483648, 2147483656)) 4 (E_d44_0.take 4) h_d44_0)]
set_option maxRecDepth 1000000 in
theorem ck_d44_e : e2_run (e2_cal S_d44 I_d44 4000 2) (e2_fin rs_d44) e2x_229 (e2_bpL cl_d44_e) (e2_cutA cl_d44_e) 4000 (e2_seek e2x_229 0) (e2_al 8 as_d44) [] E_d44 f_d44 = true := by decide +kernel
noncomputable def cl_d44_0 : List (Nat × e2_S) := [(28, e2_cutL (al_d44_0.set 5 (13, 12, 2147483656)) 4 (E_d44_0.take 4) h_d44_0)]
set_option maxRecDepth 1000000 in
theorem ck_d44_0 : e2_runM (e2_cal S_d44 I_d44 4000 2) (e2_fin rs_d44) e2x_229 (e2_bpL cl_d44_0) (e2_cutA cl_d44_0) 4000 (e2_seek e2x_229 28) al_d44_0 [] E_d44_0 h_d44_0 = true := by decide +kernel
set_option maxRecDepth 1000000 in
theorem ci_d44_0 : e2_idl 4 (al_d44_0.set 5 (9, 0, 0)) = true := by decide +kernel
set_option maxRecDepth 1000000 in
theorem cj_d44_0 : e2_idh 4 8 h_d44_0 = true := by decide +kernel
theorem cs_d44 (hen : en_ok) (l : Launch) : e2_smOk l 3 s_d44 := by
  refine e2_conG (H := 0) (n := 2) (C := evd_229) (S := S_d44) (I := I_d44) (fuel := 4000) hen ei_229 e2_fz (e2_fa ein_215 (e2_fa ein_216 (e2_fa ein_217 (e2_fa ein_225 (e2_fa ein_226 (e2_fa ein_227 (e2_fa ein_228 e2_fz))))))) (by decide) co_d44 fun M d _ hC hcall p e R s m args below meth c Q D cA A ads r0 ha hl0 => ?_
  have L_0 : e2_gdM M p l e R s m args below meth c Q D cA A ads r0 28 al_d44_0 [] E_d44_0 h_d44_0 := by
    refine e2_indL (u := 4) (j := 5) (lo := 2147483648) (hi := 2147483656) (b := 4) (dd := 0) hl0 (by decide) rfl rfl (Or.inr ⟨rfl, rfl⟩) rfl ci_d44_0 cj_d44_0 ?_
    intro r_0 k_0 hk_0 hp_0 hs_0 hn_0
    have hl_0 : r_0.length ≤ 5 := hs_0.len rfl
    have ha_0 := ha.ext hp_0
    exact e2_fromM hen ha_0 hcall (e2_cutA_ok (e2_fa (fun al st E h hc => hn_0 al st E h hc) e2_fz)) (hC [28]) (X := e2x_229) ex2_229 28 ck_d44_0
  have EN_0 := e2_entL (u := 4) (j := 5) (lo := 2147483648) (hi := 2147483656) hl0 rfl rfl rfl ci_d44_0 cj_d44_0 L_0
  exact e2_from hen ha hcall (e2_cutA_ok (e2_fa (fun al st E h hc => EN_0 al st E h hc) e2_fz)) (hC [28]) (X := e2x_229) ex2_229 0 ck_d44_e
/-! d45 X10_layFrom -/
def as_d45 : List ev_V := [(2, 83, 0), (0, 18, 0), (11, 2147483648, 2147483656), (11, 0, 4294967295)]
def E_d45 : e2_E := [(2147483648, 2147583648, 0, 0), (2147483648, 2147483656, 1, 0), (2147483648, 2147483688, 2, 0), (2147483648, 2147483688, 3, 0)]
noncomputable def f_d45 : ev_H := (dn459 : e2_Q8)
noncomputable def q_d45_0 : ev_H := (dn459 : e2_Q8)
noncomputable def rs_d45 : e2_Rs := [((9, 0, 0), q_d45_0)]
noncomputable def s_d45 : e2_Sm := (229, as_d45, E_d45, f_d45, rs_d45)
noncomputable def S_d45 : List e2_Sm := []
noncomputable def I_d45 : List e2_In := [(215, 2, e2x_215), (216, 1, e2x_216), (217, 1, e2x_217), (225, 5, e2x_225), (226, 3, e2x_226), (227, 2, e2x_227), (228, 3, e2x_228)]
set_option maxRecDepth 1000000 in
theorem co_d45 : e2_okSB E_d45.length as_d45 f_d45 rs_d45 = true := by decide +kernel
def al_d45_0 : List ev_V := [(2, 83, 0), (0, 18, 0), (11, 2147483648, 2147483656), (11, 0, 4294967295), (11, 2147483810, 2147483818), (1, 4, 4294967296), (9, 0, 0), (9, 0, 0)]
def E_d45_0 : e2_E := [(2147483648, 2147583648, 0, 0), (2147483648, 2147483656, 1, 0), (2147483648, 2147483688, 2, 0), (2147483648, 2147483688, 3, 0), (2147483648, 2147483656, 4, 0)]
noncomputable def h_d45_0 : ev_H := (dn459 : e2_Q8)
noncomputable def cl_d45_e : List (Nat × e2_S) := [(28, e2_cutL (al_d45_0.set 5 (11, 2147483648, 2147483656)) 4 (E_d45_0.take 4) h_d45_0)]
set_option maxRecDepth 1000000 in
theorem ck_d45_e : e2_run (e2_cal S_d45 I_d45 4000 2) (e2_fin rs_d45) e2x_229 (e2_bpL cl_d45_e) (e2_cutA cl_d45_e) 4000 (e2_seek e2x_229 0) (e2_al 8 as_d45) [] E_d45 f_d45 = true := by decide +kernel
noncomputable def cl_d45_0 : List (Nat × e2_S) := [(28, e2_cutL (al_d45_0.set 5 (13, 12, 2147483656)) 4 (E_d45_0.take 4) h_d45_0)]
set_option maxRecDepth 1000000 in
theorem ck_d45_0 : e2_runM (e2_cal S_d45 I_d45 4000 2) (e2_fin rs_d45) e2x_229 (e2_bpL cl_d45_0) (e2_cutA cl_d45_0) 4000 (e2_seek e2x_229 28) al_d45_0 [] E_d45_0 h_d45_0 = true := by decide +kernel
set_option maxRecDepth 1000000 in
theorem ci_d45_0 : e2_idl 4 (al_d45_0.set 5 (9, 0, 0)) = true := by decide +kernel
set_option maxRecDepth 1000000 in
theorem cj_d45_0 : e2_idh 4 8 h_d45_0 = true := by decide +kernel
theorem cs_d45 (hen : en_ok) (l : Launch) : e2_smOk l 3 s_d45 := by
  refine e2_conG (H := 0) (n := 2) (C := evd_229) (S := S_d45) (I := I_d45) (fuel := 4000) hen ei_229 e2_fz (e2_fa ein_215 (e2_fa ein_216 (e2_fa ein_217 (e2_fa ein_225 (e2_fa ein_226 (e2_fa ein_227 (e2_fa ein_228 e2_fz))))))) (by decide) co_d45 fun M d _ hC hcall p e R s m args below meth c Q D cA A ads r0 ha hl0 => ?_
  have L_0 : e2_gdM M p l e R s m args below meth c Q D cA A ads r0 28 al_d45_0 [] E_d45_0 h_d45_0 := by
    refine e2_indL (u := 4) (j := 5) (lo := 2147483648) (hi := 2147483656) (b := 4) (dd := 0) hl0 (by decide) rfl rfl (Or.inr ⟨rfl, rfl⟩) rfl ci_d45_0 cj_d45_0 ?_
    intro r_0 k_0 hk_0 hp_0 hs_0 hn_0
    have hl_0 : r_0.length ≤ 5 := hs_0.len rfl
    have ha_0 := ha.ext hp_0
    exact e2_fromM hen ha_0 hcall (e2_cutA_ok (e2_fa (fun al st E h hc => hn_0 al st E h hc) e2_fz)) (hC [28]) (X := e2x_229) ex2_229 28 ck_d45_0
  have EN_0 := e2_entL (u := 4) (j := 5) (lo := 2147483648) (hi := 2147483656) hl0 rfl rfl rfl ci_d45_0 cj_d45_0 L_0
  exact e2_from hen ha hcall (e2_cutA_ok (e2_fa (fun al st E h hc => EN_0 al st E h hc) e2_fz)) (hC [28]) (X := e2x_229) ex2_229 0 ck_d45_e
/-! d46 X10_layFrom -/
def as_d46 : List ev_V := [(2, 83, 0), (0, 17, 0), (11, 2147483648, 2147483656), (11, 0, 4294967295)]
def E_d46 : e2_E := [(2147483648, 2147583648, 0, 0), (2147483648, 2147483656, 1, 0), (2147483648, 2147483688, 2, 0), (2147483648, 2147483688, 3, 0)]
noncomputable def f_d46 : ev_H := (dn459 : e2_Q8)
noncomputable def q_d46_0 : ev_H := (dn459 : e2_Q8)
noncomputable def rs_d46 : e2_Rs := [((9, 0, 0), q_d46_0)]
noncomputable def s_d46 : e2_Sm := (229, as_d46, E_d46, f_d46, rs_d46)
noncomputable def S_d46 : List e2_Sm := []
noncomputable def I_d46 : List e2_In := [(215, 2, e2x_215), (216, 1, e2x_216), (217, 1, e2x_217), (225, 5, e2x_225), (226, 3, e2x_226), (227, 2, e2x_227), (228, 3, e2x_228)]
set_option maxRecDepth 1000000 in
theorem co_d46 : e2_okSB E_d46.length as_d46 f_d46 rs_d46 = true := by decide +kernel
def al_d46_0 : List ev_V := [(2, 83, 0), (0, 17, 0), (11, 2147483648, 2147483656), (11, 0, 4294967295), (11, 2147483801, 2147483809), (1, 4, 4294967296), (9, 0, 0), (9, 0, 0)]
def E_d46_0 : e2_E := [(2147483648, 2147583648, 0, 0), (2147483648, 2147483656, 1, 0), (2147483648, 2147483688, 2, 0), (2147483648, 2147483688, 3, 0), (2147483648, 2147483656, 4, 0)]
noncomputable def h_d46_0 : ev_H := (dn459 : e2_Q8)
noncomputable def cl_d46_e : List (Nat × e2_S) := [(28, e2_cutL (al_d46_0.set 5 (11, 2147483648, 2147483656)) 4 (E_d46_0.take 4) h_d46_0)]
set_option maxRecDepth 1000000 in
theorem ck_d46_e : e2_run (e2_cal S_d46 I_d46 4000 2) (e2_fin rs_d46) e2x_229 (e2_bpL cl_d46_e) (e2_cutA cl_d46_e) 4000 (e2_seek e2x_229 0) (e2_al 8 as_d46) [] E_d46 f_d46 = true := by decide +kernel
noncomputable def cl_d46_0 : List (Nat × e2_S) := [(28, e2_cutL (al_d46_0.set 5 (13, 12, 2147483656)) 4 (E_d46_0.take 4) h_d46_0)]
set_option maxRecDepth 1000000 in
theorem ck_d46_0 : e2_runM (e2_cal S_d46 I_d46 4000 2) (e2_fin rs_d46) e2x_229 (e2_bpL cl_d46_0) (e2_cutA cl_d46_0) 4000 (e2_seek e2x_229 28) al_d46_0 [] E_d46_0 h_d46_0 = true := by decide +kernel
set_option maxRecDepth 1000000 in
theorem ci_d46_0 : e2_idl 4 (al_d46_0.set 5 (9, 0, 0)) = true := by decide +kernel
set_option maxRecDepth 1000000 in
theorem cj_d46_0 : e2_idh 4 8 h_d46_0 = true := by decide +kernel
theorem cs_d46 (hen : en_ok) (l : Launch) : e2_smOk l 3 s_d46 := by
  refine e2_conG (H := 0) (n := 2) (C := evd_229) (S := S_d46) (I := I_d46) (fuel := 4000) hen ei_229 e2_fz (e2_fa ein_215 (e2_fa ein_216 (e2_fa ein_217 (e2_fa ein_225 (e2_fa ein_226 (e2_fa ein_227 (e2_fa ein_228 e2_fz))))))) (by decide) co_d46 fun M d _ hC hcall p e R s m args below meth c Q D cA A ads r0 ha hl0 => ?_
  have L_0 : e2_gdM M p l e R s m args below meth c Q D cA A ads r0 28 al_d46_0 [] E_d46_0 h_d46_0 := by
    refine e2_indL (u := 4) (j := 5) (lo := 2147483648) (hi := 2147483656) (b := 4) (dd := 0) hl0 (by decide) rfl rfl (Or.inr ⟨rfl, rfl⟩) rfl ci_d46_0 cj_d46_0 ?_
    intro r_0 k_0 hk_0 hp_0 hs_0 hn_0
    have hl_0 : r_0.length ≤ 5 := hs_0.len rfl
    have ha_0 := ha.ext hp_0
    exact e2_fromM hen ha_0 hcall (e2_cutA_ok (e2_fa (fun al st E h hc => hn_0 al st E h hc) e2_fz)) (hC [28]) (X := e2x_229) ex2_229 28 ck_d46_0
  have EN_0 := e2_entL (u := 4) (j := 5) (lo := 2147483648) (hi := 2147483656) hl0 rfl rfl rfl ci_d46_0 cj_d46_0 L_0
  exact e2_from hen ha hcall (e2_cutA_ok (e2_fa (fun al st E h hc => EN_0 al st E h hc) e2_fz)) (hC [28]) (X := e2x_229) ex2_229 0 ck_d46_e
/-! d47 X10_layFrom -/
def as_d47 : List ev_V := [(2, 83, 0), (0, 16, 0), (11, 2147483648, 2147483656), (11, 0, 4294967295)]
def E_d47 : e2_E := [(2147483648, 2147583648, 0, 0), (2147483648, 2147483656, 1, 0), (2147483648, 2147483688, 2, 0), (2147483648, 2147483688, 3, 0)]
noncomputable def f_d47 : ev_H := (dn459 : e2_Q8)
noncomputable def q_d47_0 : ev_H := (dn459 : e2_Q8)
noncomputable def rs_d47 : e2_Rs := [((9, 0, 0), q_d47_0)]
noncomputable def s_d47 : e2_Sm := (229, as_d47, E_d47, f_d47, rs_d47)
noncomputable def S_d47 : List e2_Sm := []
noncomputable def I_d47 : List e2_In := [(215, 2, e2x_215), (216, 1, e2x_216), (217, 1, e2x_217), (225, 5, e2x_225), (226, 3, e2x_226), (227, 2, e2x_227), (228, 3, e2x_228)]
set_option maxRecDepth 1000000 in
theorem co_d47 : e2_okSB E_d47.length as_d47 f_d47 rs_d47 = true := by decide +kernel
def al_d47_0 : List ev_V := [(2, 83, 0), (0, 16, 0), (11, 2147483648, 2147483656), (11, 0, 4294967295), (11, 2147483792, 2147483800), (1, 4, 4294967296), (9, 0, 0), (9, 0, 0)]
def E_d47_0 : e2_E := [(2147483648, 2147583648, 0, 0), (2147483648, 2147483656, 1, 0), (2147483648, 2147483688, 2, 0), (2147483648, 2147483688, 3, 0), (2147483648, 2147483656, 4, 0)]
noncomputable def h_d47_0 : ev_H := (dn459 : e2_Q8)
noncomputable def cl_d47_e : List (Nat × e2_S) := [(28, e2_cutL (al_d47_0.set 5 (11, 2147483648, 2147483656)) 4 (E_d47_0.take 4) h_d47_0)]
set_option maxRecDepth 1000000 in
theorem ck_d47_e : e2_run (e2_cal S_d47 I_d47 4000 2) (e2_fin rs_d47) e2x_229 (e2_bpL cl_d47_e) (e2_cutA cl_d47_e) 4000 (e2_seek e2x_229 0) (e2_al 8 as_d47) [] E_d47 f_d47 = true := by decide +kernel
noncomputable def cl_d47_0 : List (Nat × e2_S) := [(28, e2_cutL (al_d47_0.set 5 (13, 12, 2147483656)) 4 (E_d47_0.take 4) h_d47_0)]
set_option maxRecDepth 1000000 in
theorem ck_d47_0 : e2_runM (e2_cal S_d47 I_d47 4000 2) (e2_fin rs_d47) e2x_229 (e2_bpL cl_d47_0) (e2_cutA cl_d47_0) 4000 (e2_seek e2x_229 28) al_d47_0 [] E_d47_0 h_d47_0 = true := by decide +kernel
set_option maxRecDepth 1000000 in
theorem ci_d47_0 : e2_idl 4 (al_d47_0.set 5 (9, 0, 0)) = true := by decide +kernel
set_option maxRecDepth 1000000 in
theorem cj_d47_0 : e2_idh 4 8 h_d47_0 = true := by decide +kernel
theorem cs_d47 (hen : en_ok) (l : Launch) : e2_smOk l 3 s_d47 := by
  refine e2_conG (H := 0) (n := 2) (C := evd_229) (S := S_d47) (I := I_d47) (fuel := 4000) hen ei_229 e2_fz (e2_fa ein_215 (e2_fa ein_216 (e2_fa ein_217 (e2_fa ein_225 (e2_fa ein_226 (e2_fa ein_227 (e2_fa ein_228 e2_fz))))))) (by decide) co_d47 fun M d _ hC hcall p e R s m args below meth c Q D cA A ads r0 ha hl0 => ?_
  have L_0 : e2_gdM M p l e R s m args below meth c Q D cA A ads r0 28 al_d47_0 [] E_d47_0 h_d47_0 := by
    refine e2_indL (u := 4) (j := 5) (lo := 2147483648) (hi := 2147483656) (b := 4) (dd := 0) hl0 (by decide) rfl rfl (Or.inr ⟨rfl, rfl⟩) rfl ci_d47_0 cj_d47_0 ?_
    intro r_0 k_0 hk_0 hp_0 hs_0 hn_0
    have hl_0 : r_0.length ≤ 5 := hs_0.len rfl
    have ha_0 := ha.ext hp_0
    exact e2_fromM hen ha_0 hcall (e2_cutA_ok (e2_fa (fun al st E h hc => hn_0 al st E h hc) e2_fz)) (hC [28]) (X := e2x_229) ex2_229 28 ck_d47_0
  have EN_0 := e2_entL (u := 4) (j := 5) (lo := 2147483648) (hi := 2147483656) hl0 rfl rfl rfl ci_d47_0 cj_d47_0 L_0
  exact e2_from hen ha hcall (e2_cutA_ok (e2_fa (fun al st E h hc => EN_0 al st E h hc) e2_fz)) (hC [28]) (X := e2x_229) ex2_229 0 ck_d47_e
/-! d48 X10_layFrom -/
def as_d48 : List ev_V := [(2, 83, 0), (0, 15, 0), (11, 2147483648, 2147483656), (11, 0, 4294967295)]
def E_d48 : e2_E := [(2147483648, 2147583648, 0, 0), (2147483648, 2147483656, 1, 0), (2147483648, 2147483688, 2, 0), (2147483648, 2147483688, 3, 0)]
noncomputable def f_d48 : ev_H := (dn459 : e2_Q8)
noncomputable def q_d48_0 : ev_H := (dn459 : e2_Q8)
noncomputable def rs_d48 : e2_Rs := [((9, 0, 0), q_d48_0)]
noncomputable def s_d48 : e2_Sm := (229, as_d48, E_d48, f_d48, rs_d48)
noncomputable def S_d48 : List e2_Sm := []
noncomputable def I_d48 : List e2_In := [(215, 2, e2x_215), (216, 1, e2x_216), (217, 1, e2x_217), (225, 5, e2x_225), (226, 3, e2x_226), (227, 2, e2x_227), (228, 3, e2x_228)]
set_option maxRecDepth 1000000 in
theorem co_d48 : e2_okSB E_d48.length as_d48 f_d48 rs_d48 = true := by decide +kernel
def al_d48_0 : List ev_V := [(2, 83, 0), (0, 15, 0), (11, 2147483648, 2147483656), (11, 0, 4294967295), (11, 2147483783, 2147483791), (1, 4, 4294967296), (9, 0, 0), (9, 0, 0)]
def E_d48_0 : e2_E := [(2147483648, 2147583648, 0, 0), (2147483648, 2147483656, 1, 0), (2147483648, 2147483688, 2, 0), (2147483648, 2147483688, 3, 0), (2147483648, 2147483656, 4, 0)]
noncomputable def h_d48_0 : ev_H := (dn459 : e2_Q8)
noncomputable def cl_d48_e : List (Nat × e2_S) := [(28, e2_cutL (al_d48_0.set 5 (11, 2147483648, 2147483656)) 4 (E_d48_0.take 4) h_d48_0)]
set_option maxRecDepth 1000000 in
theorem ck_d48_e : e2_run (e2_cal S_d48 I_d48 4000 2) (e2_fin rs_d48) e2x_229 (e2_bpL cl_d48_e) (e2_cutA cl_d48_e) 4000 (e2_seek e2x_229 0) (e2_al 8 as_d48) [] E_d48 f_d48 = true := by decide +kernel
noncomputable def cl_d48_0 : List (Nat × e2_S) := [(28, e2_cutL (al_d48_0.set 5 (13, 12, 2147483656)) 4 (E_d48_0.take 4) h_d48_0)]
set_option maxRecDepth 1000000 in
theorem ck_d48_0 : e2_runM (e2_cal S_d48 I_d48 4000 2) (e2_fin rs_d48) e2x_229 (e2_bpL cl_d48_0) (e2_cutA cl_d48_0) 4000 (e2_seek e2x_229 28) al_d48_0 [] E_d48_0 h_d48_0 = true := by decide +kernel
set_option maxRecDepth 1000000 in
theorem ci_d48_0 : e2_idl 4 (al_d48_0.set 5 (9, 0, 0)) = true := by decide +kernel
set_option maxRecDepth 1000000 in
theorem cj_d48_0 : e2_idh 4 8 h_d48_0 = true := by decide +kernel
theorem cs_d48 (hen : en_ok) (l : Launch) : e2_smOk l 3 s_d48 := by
  refine e2_conG (H := 0) (n := 2) (C := evd_229) (S := S_d48) (I := I_d48) (fuel := 4000) hen ei_229 e2_fz (e2_fa ein_215 (e2_fa ein_216 (e2_fa ein_217 (e2_fa ein_225 (e2_fa ein_226 (e2_fa ein_227 (e2_fa ein_228 e2_fz))))))) (by decide) co_d48 fun M d _ hC hcall p e R s m args below meth c Q D cA A ads r0 ha hl0 => ?_
  have L_0 : e2_gdM M p l e R s m args below meth c Q D cA A ads r0 28 al_d48_0 [] E_d48_0 h_d48_0 := by
    refine e2_indL (u := 4) (j := 5) (lo := 2147483648) (hi := 2147483656) (b := 4) (dd := 0) hl0 (by decide) rfl rfl (Or.inr ⟨rfl, rfl⟩) rfl ci_d48_0 cj_d48_0 ?_
    intro r_0 k_0 hk_0 hp_0 hs_0 hn_0
    have hl_0 : r_0.length ≤ 5 := hs_0.len rfl
    have ha_0 := ha.ext hp_0
    exact e2_fromM hen ha_0 hcall (e2_cutA_ok (e2_fa (fun al st E h hc => hn_0 al st E h hc) e2_fz)) (hC [28]) (X := e2x_229) ex2_229 28 ck_d48_0
  have EN_0 := e2_entL (u := 4) (j := 5) (lo := 2147483648) (hi := 2147483656) hl0 rfl rfl rfl ci_d48_0 cj_d48_0 L_0
  exact e2_from hen ha hcall (e2_cutA_ok (e2_fa (fun al st E h hc => EN_0 al st E h hc) e2_fz)) (hC [28]) (X := e2x_229) ex2_229 0 ck_d48_e
/-! d49 X10_layFrom -/
def as_d49 : List ev_V := [(2, 83, 0), (0, 14, 0), (11, 2147483648, 2147483656), (11, 0, 4294967295)]
def E_d49 : e2_E := [(2147483648, 2147583648, 0, 0), (2147483648, 2147483656, 1, 0), (2147483648, 2147483688, 2, 0), (2147483648, 2147483688, 3, 0)]
noncomputable def f_d49 : ev_H := (dn459 : e2_Q8)
noncomputable def q_d49_0 : ev_H := (dn459 : e2_Q8)
noncomputable def rs_d49 : e2_Rs := [((9, 0, 0), q_d49_0)]
noncomputable def s_d49 : e2_Sm := (229, as_d49, E_d49, f_d49, rs_d49)
noncomputable def S_d49 : List e2_Sm := []
noncomputable def I_d49 : List e2_In := [(215, 2, e2x_215), (216, 1, e2x_216), (217, 1, e2x_217), (225, 5, e2x_225), (226, 3, e2x_226), (227, 2, e2x_227), (228, 3, e2x_228)]
set_option maxRecDepth 1000000 in
theorem co_d49 : e2_okSB E_d49.length as_d49 f_d49 rs_d49 = true := by decide +kernel
def al_d49_0 : List ev_V := [(2, 83, 0), (0, 14, 0), (11, 2147483648, 2147483656), (11, 0, 4294967295), (11, 2147483774, 2147483782), (1, 4, 4294967296), (9, 0, 0), (9, 0, 0)]
def E_d49_0 : e2_E := [(2147483648, 2147583648, 0, 0), (2147483648, 2147483656, 1, 0), (2147483648, 2147483688, 2, 0), (2147483648, 2147483688, 3, 0), (2147483648, 2147483656, 4, 0)]
noncomputable def h_d49_0 : ev_H := (dn459 : e2_Q8)
noncomputable def cl_d49_e : List (Nat × e2_S) := [(28, e2_cutL (al_d49_0.set 5 (11, 2147483648, 2147483656)) 4 (E_d49_0.take 4) h_d49_0)]
set_option maxRecDepth 1000000 in
theorem ck_d49_e : e2_run (e2_cal S_d49 I_d49 4000 2) (e2_fin rs_d49) e2x_229 (e2_bpL cl_d49_e) (e2_cutA cl_d49_e) 4000 (e2_seek e2x_229 0) (e2_al 8 as_d49) [] E_d49 f_d49 = true := by decide +kernel
noncomputable def cl_d49_0 : List (Nat × e2_S) := [(28, e2_cutL (al_d49_0.set 5 (13, 12, 2147483656)) 4 (E_d49_0.take 4) h_d49_0)]
set_option maxRecDepth 1000000 in
theorem ck_d49_0 : e2_runM (e2_cal S_d49 I_d49 4000 2) (e2_fin rs_d49) e2x_229 (e2_bpL cl_d49_0) (e2_cutA cl_d49_0) 4000 (e2_seek e2x_229 28) al_d49_0 [] E_d49_0 h_d49_0 = true := by decide +kernel
set_option maxRecDepth 1000000 in
theorem ci_d49_0 : e2_idl 4 (al_d49_0.set 5 (9, 0, 0)) = true := by decide +kernel
set_option maxRecDepth 1000000 in
theorem cj_d49_0 : e2_idh 4 8 h_d49_0 = true := by decide +kernel
theorem cs_d49 (hen : en_ok) (l : Launch) : e2_smOk l 3 s_d49 := by
  refine e2_conG (H := 0) (n := 2) (C := evd_229) (S := S_d49) (I := I_d49) (fuel := 4000) hen ei_229 e2_fz (e2_fa ein_215 (e2_fa ein_216 (e2_fa ein_217 (e2_fa ein_225 (e2_fa ein_226 (e2_fa ein_227 (e2_fa ein_228 e2_fz))))))) (by decide) co_d49 fun M d _ hC hcall p e R s m args below meth c Q D cA A ads r0 ha hl0 => ?_
  have L_0 : e2_gdM M p l e R s m args below meth c Q D cA A ads r0 28 al_d49_0 [] E_d49_0 h_d49_0 := by
    refine e2_indL (u := 4) (j := 5) (lo := 2147483648) (hi := 2147483656) (b := 4) (dd := 0) hl0 (by decide) rfl rfl (Or.inr ⟨rfl, rfl⟩) rfl ci_d49_0 cj_d49_0 ?_
    intro r_0 k_0 hk_0 hp_0 hs_0 hn_0
    have hl_0 : r_0.length ≤ 5 := hs_0.len rfl
    have ha_0 := ha.ext hp_0
    exact e2_fromM hen ha_0 hcall (e2_cutA_ok (e2_fa (fun al st E h hc => hn_0 al st E h hc) e2_fz)) (hC [28]) (X := e2x_229) ex2_229 28 ck_d49_0
  have EN_0 := e2_entL (u := 4) (j := 5) (lo := 2147483648) (hi := 2147483656) hl0 rfl rfl rfl ci_d49_0 cj_d49_0 L_0
  exact e2_from hen ha hcall (e2_cutA_ok (e2_fa (fun al st E h hc => EN_0 al st E h hc) e2_fz)) (hC [28]) (X := e2x_229) ex2_229 0 ck_d49_e
/-! d50 X10_layFrom -/
def as_d50 : List ev_V := [(2, 83, 0), (0, 13, 0), (11, 2147483648, 2147483656), (11, 0, 4294967295)]
def E_d50 : e2_E := [(2147483648, 2147583648, 0, 0), (2147483648, 2147483656, 1, 0), (2147483648, 2147483688, 2, 0), (2147483648, 2147483688, 3, 0)]
noncomputable def f_d50 : ev_H := (dn459 : e2_Q8)
noncomputable def q_d50_0 : ev_H := (dn459 : e2_Q8)
noncomputable def rs_d50 : e2_Rs := [((9, 0, 0), q_d50_0)]
noncomputable def s_d50 : e2_Sm := (229, as_d50, E_d50, f_d50, rs_d50)
noncomputable def S_d50 : List e2_Sm := []
noncomputable def I_d50 : List e2_In := [(215, 2, e2x_215), (216, 1, e2x_216), (217, 1, e2x_217), (225, 5, e2x_225), (226, 3, e2x_226), (227, 2, e2x_227), (228, 3, e2x_228)]
set_option maxRecDepth 1000000 in
theorem co_d50 : e2_okSB E_d50.length as_d50 f_d50 rs_d50 = true := by decide +kernel
def al_d50_0 : List ev_V := [(2, 83, 0), (0, 13, 0), (11, 2147483648, 2147483656), (11, 0, 4294967295), (11, 2147483765, 2147483773), (1, 4, 4294967296), (9, 0, 0), (9, 0, 0)]
def E_d50_0 : e2_E := [(2147483648, 2147583648, 0, 0), (2147483648, 2147483656, 1, 0), (2147483648, 2147483688, 2, 0), (2147483648, 2147483688, 3, 0), (2147483648, 2147483656, 4, 0)]
noncomputable def h_d50_0 : ev_H := (dn459 : e2_Q8)
noncomputable def cl_d50_e : List (Nat × e2_S) := [(28, e2_cutL (al_d50_0.set 5 (11, 2147483648, 2147483656)) 4 (E_d50_0.take 4) h_d50_0)]
set_option maxRecDepth 1000000 in
theorem ck_d50_e : e2_run (e2_cal S_d50 I_d50 4000 2) (e2_fin rs_d50) e2x_229 (e2_bpL cl_d50_e) (e2_cutA cl_d50_e) 4000 (e2_seek e2x_229 0) (e2_al 8 as_d50) [] E_d50 f_d50 = true := by decide +kernel
noncomputable def cl_d50_0 : List (Nat × e2_S) := [(28, e2_cutL (al_d50_0.set 5 (13, 12, 2147483656)) 4 (E_d50_0.take 4) h_d50_0)]
set_option maxRecDepth 1000000 in
theorem ck_d50_0 : e2_runM (e2_cal S_d50 I_d50 4000 2) (e2_fin rs_d50) e2x_229 (e2_bpL cl_d50_0) (e2_cutA cl_d50_0) 4000 (e2_seek e2x_229 28) al_d50_0 [] E_d50_0 h_d50_0 = true := by decide +kernel
set_option maxRecDepth 1000000 in
theorem ci_d50_0 : e2_idl 4 (al_d50_0.set 5 (9, 0, 0)) = true := by decide +kernel
set_option maxRecDepth 1000000 in
theorem cj_d50_0 : e2_idh 4 8 h_d50_0 = true := by decide +kernel
theorem cs_d50 (hen : en_ok) (l : Launch) : e2_smOk l 3 s_d50 := by
  refine e2_conG (H := 0) (n := 2) (C := evd_229) (S := S_d50) (I := I_d50) (fuel := 4000) hen ei_229 e2_fz (e2_fa ein_215 (e2_fa ein_216 (e2_fa ein_217 (e2_fa ein_225 (e2_fa ein_226 (e2_fa ein_227 (e2_fa ein_228 e2_fz))))))) (by decide) co_d50 fun M d _ hC hcall p e R s m args below meth c Q D cA A ads r0 ha hl0 => ?_
  have L_0 : e2_gdM M p l e R s m args below meth c Q D cA A ads r0 28 al_d50_0 [] E_d50_0 h_d50_0 := by
    refine e2_indL (u := 4) (j := 5) (lo := 2147483648) (hi := 2147483656) (b := 4) (dd := 0) hl0 (by decide) rfl rfl (Or.inr ⟨rfl, rfl⟩) rfl ci_d50_0 cj_d50_0 ?_
    intro r_0 k_0 hk_0 hp_0 hs_0 hn_0
    have hl_0 : r_0.length ≤ 5 := hs_0.len rfl
    have ha_0 := ha.ext hp_0
    exact e2_fromM hen ha_0 hcall (e2_cutA_ok (e2_fa (fun al st E h hc => hn_0 al st E h hc) e2_fz)) (hC [28]) (X := e2x_229) ex2_229 28 ck_d50_0
  have EN_0 := e2_entL (u := 4) (j := 5) (lo := 2147483648) (hi := 2147483656) hl0 rfl rfl rfl ci_d50_0 cj_d50_0 L_0
  exact e2_from hen ha hcall (e2_cutA_ok (e2_fa (fun al st E h hc => EN_0 al st E h hc) e2_fz)) (hC [28]) (X := e2x_229) ex2_229 0 ck_d50_e
/-! d51 X10_layFrom -/
def as_d51 : List ev_V := [(2, 83, 0), (0, 12, 0), (11, 2147483648, 2147483656), (11, 0, 4294967295)]
def E_d51 : e2_E := [(2147483648, 2147583648, 0, 0), (2147483648, 2147483656, 1, 0), (2147483648, 2147483688, 2, 0), (2147483648, 2147483688, 3, 0)]
noncomputable def f_d51 : ev_H := (dn459 : e2_Q8)
noncomputable def q_d51_0 : ev_H := (dn459 : e2_Q8)
noncomputable def rs_d51 : e2_Rs := [((9, 0, 0), q_d51_0)]
noncomputable def s_d51 : e2_Sm := (229, as_d51, E_d51, f_d51, rs_d51)
noncomputable def S_d51 : List e2_Sm := []
noncomputable def I_d51 : List e2_In := [(215, 2, e2x_215), (216, 1, e2x_216), (217, 1, e2x_217), (225, 5, e2x_225), (226, 3, e2x_226), (227, 2, e2x_227), (228, 3, e2x_228)]
set_option maxRecDepth 1000000 in
theorem co_d51 : e2_okSB E_d51.length as_d51 f_d51 rs_d51 = true := by decide +kernel
def al_d51_0 : List ev_V := [(2, 83, 0), (0, 12, 0), (11, 2147483648, 2147483656), (11, 0, 4294967295), (11, 2147483756, 2147483764), (1, 4, 4294967296), (9, 0, 0), (9, 0, 0)]
def E_d51_0 : e2_E := [(2147483648, 2147583648, 0, 0), (2147483648, 2147483656, 1, 0), (2147483648, 2147483688, 2, 0), (2147483648, 2147483688, 3, 0), (2147483648, 2147483656, 4, 0)]
noncomputable def h_d51_0 : ev_H := (dn459 : e2_Q8)
noncomputable def cl_d51_e : List (Nat × e2_S) := [(28, e2_cutL (al_d51_0.set 5 (11, 2147483648, 2147483656)) 4 (E_d51_0.take 4) h_d51_0)]
set_option maxRecDepth 1000000 in
theorem ck_d51_e : e2_run (e2_cal S_d51 I_d51 4000 2) (e2_fin rs_d51) e2x_229 (e2_bpL cl_d51_e) (e2_cutA cl_d51_e) 4000 (e2_seek e2x_229 0) (e2_al 8 as_d51) [] E_d51 f_d51 = true := by decide +kernel
noncomputable def cl_d51_0 : List (Nat × e2_S) := [(28, e2_cutL (al_d51_0.set 5 (13, 12, 2147483656)) 4 (E_d51_0.take 4) h_d51_0)]
set_option maxRecDepth 1000000 in
theorem ck_d51_0 : e2_runM (e2_cal S_d51 I_d51 4000 2) (e2_fin rs_d51) e2x_229 (e2_bpL cl_d51_0) (e2_cutA cl_d51_0) 4000 (e2_seek e2x_229 28) al_d51_0 [] E_d51_0 h_d51_0 = true := by decide +kernel
set_option maxRecDepth 1000000 in
theorem ci_d51_0 : e2_idl 4 (al_d51_0.set 5 (9, 0, 0)) = true := by decide +kernel
set_option maxRecDepth 1000000 in
theorem cj_d51_0 : e2_idh 4 8 h_d51_0 = true := by decide +kernel
theorem cs_d51 (hen : en_ok) (l : Launch) : e2_smOk l 3 s_d51 := by
  refine e2_conG (H := 0) (n := 2) (C := evd_229) (S := S_d51) (I := I_d51) (fuel := 4000) hen ei_229 e2_fz (e2_fa ein_215 (e2_fa ein_216 (e2_fa ein_217 (e2_fa ein_225 (e2_fa ein_226 (e2_fa ein_227 (e2_fa ein_228 e2_fz))))))) (by decide) co_d51 fun M d _ hC hcall p e R s m args below meth c Q D cA A ads r0 ha hl0 => ?_
  have L_0 : e2_gdM M p l e R s m args below meth c Q D cA A ads r0 28 al_d51_0 [] E_d51_0 h_d51_0 := by
    refine e2_indL (u := 4) (j := 5) (lo := 2147483648) (hi := 2147483656) (b := 4) (dd := 0) hl0 (by decide) rfl rfl (Or.inr ⟨rfl, rfl⟩) rfl ci_d51_0 cj_d51_0 ?_
    intro r_0 k_0 hk_0 hp_0 hs_0 hn_0
    have hl_0 : r_0.length ≤ 5 := hs_0.len rfl
    have ha_0 := ha.ext hp_0
    exact e2_fromM hen ha_0 hcall (e2_cutA_ok (e2_fa (fun al st E h hc => hn_0 al st E h hc) e2_fz)) (hC [28]) (X := e2x_229) ex2_229 28 ck_d51_0
  have EN_0 := e2_entL (u := 4) (j := 5) (lo := 2147483648) (hi := 2147483656) hl0 rfl rfl rfl ci_d51_0 cj_d51_0 L_0
  exact e2_from hen ha hcall (e2_cutA_ok (e2_fa (fun al st E h hc => EN_0 al st E h hc) e2_fz)) (hC [28]) (X := e2x_229) ex2_229 0 ck_d51_e
/-! d52 X10_layFrom -/
def as_d52 : List ev_V := [(2, 83, 0), (0, 11, 0), (11, 2147483648, 2147483656), (11, 0, 4294967295)]
def E_d52 : e2_E := [(2147483648, 2147583648, 0, 0), (2147483648, 2147483656, 1, 0), (2147483648, 2147483688, 2, 0), (2147483648, 2147483688, 3, 0)]
noncomputable def f_d52 : ev_H := (dn459 : e2_Q8)
noncomputable def q_d52_0 : ev_H := (dn459 : e2_Q8)
noncomputable def rs_d52 : e2_Rs := [((9, 0, 0), q_d52_0)]
noncomputable def s_d52 : e2_Sm := (229, as_d52, E_d52, f_d52, rs_d52)
noncomputable def S_d52 : List e2_Sm := []
noncomputable def I_d52 : List e2_In := [(215, 2, e2x_215), (216, 1, e2x_216), (217, 1, e2x_217), (225, 5, e2x_225), (226, 3, e2x_226), (227, 2, e2x_227), (228, 3, e2x_228)]
set_option maxRecDepth 1000000 in
theorem co_d52 : e2_okSB E_d52.length as_d52 f_d52 rs_d52 = true := by decide +kernel
def al_d52_0 : List ev_V := [(2, 83, 0), (0, 11, 0), (11, 2147483648, 2147483656), (11, 0, 4294967295), (11, 2147483747, 2147483755), (1, 4, 4294967296), (9, 0, 0), (9, 0, 0)]
def E_d52_0 : e2_E := [(2147483648, 2147583648, 0, 0), (2147483648, 2147483656, 1, 0), (2147483648, 2147483688, 2, 0), (2147483648, 2147483688, 3, 0), (2147483648, 2147483656, 4, 0)]
noncomputable def h_d52_0 : ev_H := (dn459 : e2_Q8)
noncomputable def cl_d52_e : List (Nat × e2_S) := [(28, e2_cutL (al_d52_0.set 5 (11, 2147483648, 2147483656)) 4 (E_d52_0.take 4) h_d52_0)]
set_option maxRecDepth 1000000 in
theorem ck_d52_e : e2_run (e2_cal S_d52 I_d52 4000 2) (e2_fin rs_d52) e2x_229 (e2_bpL cl_d52_e) (e2_cutA cl_d52_e) 4000 (e2_seek e2x_229 0) (e2_al 8 as_d52) [] E_d52 f_d52 = true := by decide +kernel
noncomputable def cl_d52_0 : List (Nat × e2_S) := [(28, e2_cutL (al_d52_0.set 5 (13, 12, 2147483656)) 4 (E_d52_0.take 4) h_d52_0)]
set_option maxRecDepth 1000000 in
theorem ck_d52_0 : e2_runM (e2_cal S_d52 I_d52 4000 2) (e2_fin rs_d52) e2x_229 (e2_bpL cl_d52_0) (e2_cutA cl_d52_0) 4000 (e2_seek e2x_229 28) al_d52_0 [] E_d52_0 h_d52_0 = true := by decide +kernel
set_option maxRecDepth 1000000 in
theorem ci_d52_0 : e2_idl 4 (al_d52_0.set 5 (9, 0, 0)) = true := by decide +kernel
set_option maxRecDepth 1000000 in
theorem cj_d52_0 : e2_idh 4 8 h_d52_0 = true := by decide +kernel
theorem cs_d52 (hen : en_ok) (l : Launch) : e2_smOk l 3 s_d52 := by
  refine e2_conG (H := 0) (n := 2) (C := evd_229) (S := S_d52) (I := I_d52) (fuel := 4000) hen ei_229 e2_fz (e2_fa ein_215 (e2_fa ein_216 (e2_fa ein_217 (e2_fa ein_225 (e2_fa ein_226 (e2_fa ein_227 (e2_fa ein_228 e2_fz))))))) (by decide) co_d52 fun M d _ hC hcall p e R s m args below meth c Q D cA A ads r0 ha hl0 => ?_
  have L_0 : e2_gdM M p l e R s m args below meth c Q D cA A ads r0 28 al_d52_0 [] E_d52_0 h_d52_0 := by
    refine e2_indL (u := 4) (j := 5) (lo := 2147483648) (hi := 2147483656) (b := 4) (dd := 0) hl0 (by decide) rfl rfl (Or.inr ⟨rfl, rfl⟩) rfl ci_d52_0 cj_d52_0 ?_
    intro r_0 k_0 hk_0 hp_0 hs_0 hn_0
    have hl_0 : r_0.length ≤ 5 := hs_0.len rfl
    have ha_0 := ha.ext hp_0
    exact e2_fromM hen ha_0 hcall (e2_cutA_ok (e2_fa (fun al st E h hc => hn_0 al st E h hc) e2_fz)) (hC [28]) (X := e2x_229) ex2_229 28 ck_d52_0
  have EN_0 := e2_entL (u := 4) (j := 5) (lo := 2147483648) (hi := 2147483656) hl0 rfl rfl rfl ci_d52_0 cj_d52_0 L_0
  exact e2_from hen ha hcall (e2_cutA_ok (e2_fa (fun al st E h hc => EN_0 al st E h hc) e2_fz)) (hC [28]) (X := e2x_229) ex2_229 0 ck_d52_e
/-! d53 X10_layFrom -/
def as_d53 : List ev_V := [(2, 83, 0), (0, 10, 0), (11, 2147483648, 2147483656), (11, 0, 4294967295)]
def E_d53 : e2_E := [(2147483648, 2147583648, 0, 0), (2147483648, 2147483656, 1, 0), (2147483648, 2147483688, 2, 0), (2147483648, 2147483688, 3, 0)]
noncomputable def f_d53 : ev_H := (dn459 : e2_Q8)
noncomputable def q_d53_0 : ev_H := (dn459 : e2_Q8)
noncomputable def rs_d53 : e2_Rs := [((9, 0, 0), q_d53_0)]
noncomputable def s_d53 : e2_Sm := (229, as_d53, E_d53, f_d53, rs_d53)
noncomputable def S_d53 : List e2_Sm := []
noncomputable def I_d53 : List e2_In := [(215, 2, e2x_215), (216, 1, e2x_216), (217, 1, e2x_217), (225, 5, e2x_225), (226, 3, e2x_226), (227, 2, e2x_227), (228, 3, e2x_228)]
set_option maxRecDepth 1000000 in
theorem co_d53 : e2_okSB E_d53.length as_d53 f_d53 rs_d53 = true := by decide +kernel
def al_d53_0 : List ev_V := [(2, 83, 0), (0, 10, 0), (11, 2147483648, 2147483656), (11, 0, 4294967295), (11, 2147483738, 2147483746), (1, 4, 4294967296), (9, 0, 0), (9, 0, 0)]
def E_d53_0 : e2_E := [(2147483648, 2147583648, 0, 0), (2147483648, 2147483656, 1, 0), (2147483648, 2147483688, 2, 0), (2147483648, 2147483688, 3, 0), (2147483648, 2147483656, 4, 0)]
noncomputable def h_d53_0 : ev_H := (dn459 : e2_Q8)
noncomputable def cl_d53_e : List (Nat × e2_S) := [(28, e2_cutL (al_d53_0.set 5 (11, 2147483648, 2147483656)) 4 (E_d53_0.take 4) h_d53_0)]
set_option maxRecDepth 1000000 in
theorem ck_d53_e : e2_run (e2_cal S_d53 I_d53 4000 2) (e2_fin rs_d53) e2x_229 (e2_bpL cl_d53_e) (e2_cutA cl_d53_e) 4000 (e2_seek e2x_229 0) (e2_al 8 as_d53) [] E_d53 f_d53 = true := by decide +kernel
noncomputable def cl_d53_0 : List (Nat × e2_S) := [(28, e2_cutL (al_d53_0.set 5 (13, 12, 2147483656)) 4 (E_d53_0.take 4) h_d53_0)]
set_option maxRecDepth 1000000 in
theorem ck_d53_0 : e2_runM (e2_cal S_d53 I_d53 4000 2) (e2_fin rs_d53) e2x_229 (e2_bpL cl_d53_0) (e2_cutA cl_d53_0) 4000 (e2_seek e2x_229 28) al_d53_0 [] E_d53_0 h_d53_0 = true := by decide +kernel
set_option maxRecDepth 1000000 in
theorem ci_d53_0 : e2_idl 4 (al_d53_0.set 5 (9, 0, 0)) = true := by decide +kernel
set_option maxRecDepth 1000000 in
theorem cj_d53_0 : e2_idh 4 8 h_d53_0 = true := by decide +kernel
theorem cs_d53 (hen : en_ok) (l : Launch) : e2_smOk l 3 s_d53 := by
  refine e2_conG (H := 0) (n := 2) (C := evd_229) (S := S_d53) (I := I_d53) (fuel := 4000) hen ei_229 e2_fz (e2_fa ein_215 (e2_fa ein_216 (e2_fa ein_217 (e2_fa ein_225 (e2_fa ein_226 (e2_fa ein_227 (e2_fa ein_228 e2_fz))))))) (by decide) co_d53 fun M d _ hC hcall p e R s m args below meth c Q D cA A ads r0 ha hl0 => ?_
  have L_0 : e2_gdM M p l e R s m args below meth c Q D cA A ads r0 28 al_d53_0 [] E_d53_0 h_d53_0 := by
    refine e2_indL (u := 4) (j := 5) (lo := 2147483648) (hi := 2147483656) (b := 4) (dd := 0) hl0 (by decide) rfl rfl (Or.inr ⟨rfl, rfl⟩) rfl ci_d53_0 cj_d53_0 ?_
    intro r_0 k_0 hk_0 hp_0 hs_0 hn_0
    have hl_0 : r_0.length ≤ 5 := hs_0.len rfl
    have ha_0 := ha.ext hp_0
    exact e2_fromM hen ha_0 hcall (e2_cutA_ok (e2_fa (fun al st E h hc => hn_0 al st E h hc) e2_fz)) (hC [28]) (X := e2x_229) ex2_229 28 ck_d53_0
  have EN_0 := e2_entL (u := 4) (j := 5) (lo := 2147483648) (hi := 2147483656) hl0 rfl rfl rfl ci_d53_0 cj_d53_0 L_0
  exact e2_from hen ha hcall (e2_cutA_ok (e2_fa (fun al st E h hc => EN_0 al st E h hc) e2_fz)) (hC [28]) (X := e2x_229) ex2_229 0 ck_d53_e
/-! d54 X10_layFrom -/
def as_d54 : List ev_V := [(2, 83, 0), (0, 9, 0), (11, 2147483648, 2147483656), (11, 0, 4294967295)]
def E_d54 : e2_E := [(2147483648, 2147583648, 0, 0), (2147483648, 2147483656, 1, 0), (2147483648, 2147483688, 2, 0), (2147483648, 2147483688, 3, 0)]
noncomputable def f_d54 : ev_H := (dn459 : e2_Q8)
noncomputable def q_d54_0 : ev_H := (dn459 : e2_Q8)
noncomputable def rs_d54 : e2_Rs := [((9, 0, 0), q_d54_0)]
noncomputable def s_d54 : e2_Sm := (229, as_d54, E_d54, f_d54, rs_d54)
noncomputable def S_d54 : List e2_Sm := []
noncomputable def I_d54 : List e2_In := [(215, 2, e2x_215), (216, 1, e2x_216), (217, 1, e2x_217), (225, 5, e2x_225), (226, 3, e2x_226), (227, 2, e2x_227), (228, 3, e2x_228)]
set_option maxRecDepth 1000000 in
theorem co_d54 : e2_okSB E_d54.length as_d54 f_d54 rs_d54 = true := by decide +kernel
def al_d54_0 : List ev_V := [(2, 83, 0), (0, 9, 0), (11, 2147483648, 2147483656), (11, 0, 4294967295), (11, 2147483729, 2147483737), (1, 4, 4294967296), (9, 0, 0), (9, 0, 0)]
def E_d54_0 : e2_E := [(2147483648, 2147583648, 0, 0), (2147483648, 2147483656, 1, 0), (2147483648, 2147483688, 2, 0), (2147483648, 2147483688, 3, 0), (2147483648, 2147483656, 4, 0)]
noncomputable def h_d54_0 : ev_H := (dn459 : e2_Q8)
noncomputable def cl_d54_e : List (Nat × e2_S) := [(28, e2_cutL (al_d54_0.set 5 (11, 2147483648, 2147483656)) 4 (E_d54_0.take 4) h_d54_0)]
set_option maxRecDepth 1000000 in
theorem ck_d54_e : e2_run (e2_cal S_d54 I_d54 4000 2) (e2_fin rs_d54) e2x_229 (e2_bpL cl_d54_e) (e2_cutA cl_d54_e) 4000 (e2_seek e2x_229 0) (e2_al 8 as_d54) [] E_d54 f_d54 = true := by decide +kernel
noncomputable def cl_d54_0 : List (Nat × e2_S) := [(28, e2_cutL (al_d54_0.set 5 (13, 12, 2147483656)) 4 (E_d54_0.take 4) h_d54_0)]
set_option maxRecDepth 1000000 in
theorem ck_d54_0 : e2_runM (e2_cal S_d54 I_d54 4000 2) (e2_fin rs_d54) e2x_229 (e2_bpL cl_d54_0) (e2_cutA cl_d54_0) 4000 (e2_seek e2x_229 28) al_d54_0 [] E_d54_0 h_d54_0 = true := by decide +kernel
set_option maxRecDepth 1000000 in
theorem ci_d54_0 : e2_idl 4 (al_d54_0.set 5 (9, 0, 0)) = true := by decide +kernel
set_option maxRecDepth 1000000 in
theorem cj_d54_0 : e2_idh 4 8 h_d54_0 = true := by decide +kernel
theorem cs_d54 (hen : en_ok) (l : Launch) : e2_smOk l 3 s_d54 := by
  refine e2_conG (H := 0) (n := 2) (C := evd_229) (S := S_d54) (I := I_d54) (fuel := 4000) hen ei_229 e2_fz (e2_fa ein_215 (e2_fa ein_216 (e2_fa ein_217 (e2_fa ein_225 (e2_fa ein_226 (e2_fa ein_227 (e2_fa ein_228 e2_fz))))))) (by decide) co_d54 fun M d _ hC hcall p e R s m args below meth c Q D cA A ads r0 ha hl0 => ?_
  have L_0 : e2_gdM M p l e R s m args below meth c Q D cA A ads r0 28 al_d54_0 [] E_d54_0 h_d54_0 := by
    refine e2_indL (u := 4) (j := 5) (lo := 2147483648) (hi := 2147483656) (b := 4) (dd := 0) hl0 (by decide) rfl rfl (Or.inr ⟨rfl, rfl⟩) rfl ci_d54_0 cj_d54_0 ?_
    intro r_0 k_0 hk_0 hp_0 hs_0 hn_0
    have hl_0 : r_0.length ≤ 5 := hs_0.len rfl
    have ha_0 := ha.ext hp_0
    exact e2_fromM hen ha_0 hcall (e2_cutA_ok (e2_fa (fun al st E h hc => hn_0 al st E h hc) e2_fz)) (hC [28]) (X := e2x_229) ex2_229 28 ck_d54_0
  have EN_0 := e2_entL (u := 4) (j := 5) (lo := 2147483648) (hi := 2147483656) hl0 rfl rfl rfl ci_d54_0 cj_d54_0 L_0
  exact e2_from hen ha hcall (e2_cutA_ok (e2_fa (fun al st E h hc => EN_0 al st E h hc) e2_fz)) (hC [28]) (X := e2x_229) ex2_229 0 ck_d54_e
/-! d55 X10_layFrom -/
def as_d55 : List ev_V := [(2, 83, 0), (0, 8, 0), (11, 2147483648, 2147483656), (11, 0, 4294967295)]
def E_d55 : e2_E := [(2147483648, 2147583648, 0, 0), (2147483648, 2147483656, 1, 0), (2147483648, 2147483688, 2, 0), (2147483648, 2147483688, 3, 0)]
noncomputable def f_d55 : ev_H := (dn459 : e2_Q8)
noncomputable def q_d55_0 : ev_H := (dn459 : e2_Q8)
noncomputable def rs_d55 : e2_Rs := [((9, 0, 0), q_d55_0)]
noncomputable def s_d55 : e2_Sm := (229, as_d55, E_d55, f_d55, rs_d55)
noncomputable def S_d55 : List e2_Sm := []
noncomputable def I_d55 : List e2_In := [(215, 2, e2x_215), (216, 1, e2x_216), (217, 1, e2x_217), (225, 5, e2x_225), (226, 3, e2x_226), (227, 2, e2x_227), (228, 3, e2x_228)]
set_option maxRecDepth 1000000 in
theorem co_d55 : e2_okSB E_d55.length as_d55 f_d55 rs_d55 = true := by decide +kernel
def al_d55_0 : List ev_V := [(2, 83, 0), (0, 8, 0), (11, 2147483648, 2147483656), (11, 0, 4294967295), (11, 2147483720, 2147483728), (1, 4, 4294967296), (9, 0, 0), (9, 0, 0)]
def E_d55_0 : e2_E := [(2147483648, 2147583648, 0, 0), (2147483648, 2147483656, 1, 0), (2147483648, 2147483688, 2, 0), (2147483648, 2147483688, 3, 0), (2147483648, 2147483656, 4, 0)]
noncomputable def h_d55_0 : ev_H := (dn459 : e2_Q8)
noncomputable def cl_d55_e : List (Nat × e2_S) := [(28, e2_cutL (al_d55_0.set 5 (11, 2147483648, 2147483656)) 4 (E_d55_0.take 4) h_d55_0)]
set_option maxRecDepth 1000000 in
theorem ck_d55_e : e2_run (e2_cal S_d55 I_d55 4000 2) (e2_fin rs_d55) e2x_229 (e2_bpL cl_d55_e) (e2_cutA cl_d55_e) 4000 (e2_seek e2x_229 0) (e2_al 8 as_d55) [] E_d55 f_d55 = true := by decide +kernel
noncomputable def cl_d55_0 : List (Nat × e2_S) := [(28, e2_cutL (al_d55_0.set 5 (13, 12, 2147483656)) 4 (E_d55_0.take 4) h_d55_0)]
set_option maxRecDepth 1000000 in
theorem ck_d55_0 : e2_runM (e2_cal S_d55 I_d55 4000 2) (e2_fin rs_d55) e2x_229 (e2_bpL cl_d55_0) (e2_cutA cl_d55_0) 4000 (e2_seek e2x_229 28) al_d55_0 [] E_d55_0 h_d55_0 = true := by decide +kernel
set_option maxRecDepth 1000000 in
theorem ci_d55_0 : e2_idl 4 (al_d55_0.set 5 (9, 0, 0)) = true := by decide +kernel
set_option maxRecDepth 1000000 in
theorem cj_d55_0 : e2_idh 4 8 h_d55_0 = true := by decide +kernel
theorem cs_d55 (hen : en_ok) (l : Launch) : e2_smOk l 3 s_d55 := by
  refine e2_conG (H := 0) (n := 2) (C := evd_229) (S := S_d55) (I := I_d55) (fuel := 4000) hen ei_229 e2_fz (e2_fa ein_215 (e2_fa ein_216 (e2_fa ein_217 (e2_fa ein_225 (e2_fa ein_226 (e2_fa ein_227 (e2_fa ein_228 e2_fz))))))) (by decide) co_d55 fun M d _ hC hcall p e R s m args below meth c Q D cA A ads r0 ha hl0 => ?_
  have L_0 : e2_gdM M p l e R s m args below meth c Q D cA A ads r0 28 al_d55_0 [] E_d55_0 h_d55_0 := by
    refine e2_indL (u := 4) (j := 5) (lo := 2147483648) (hi := 2147483656) (b := 4) (dd := 0) hl0 (by decide) rfl rfl (Or.inr ⟨rfl, rfl⟩) rfl ci_d55_0 cj_d55_0 ?_
    intro r_0 k_0 hk_0 hp_0 hs_0 hn_0
    have hl_0 : r_0.length ≤ 5 := hs_0.len rfl
    have ha_0 := ha.ext hp_0
    exact e2_fromM hen ha_0 hcall (e2_cutA_ok (e2_fa (fun al st E h hc => hn_0 al st E h hc) e2_fz)) (hC [28]) (X := e2x_229) ex2_229 28 ck_d55_0
  have EN_0 := e2_entL (u := 4) (j := 5) (lo := 2147483648) (hi := 2147483656) hl0 rfl rfl rfl ci_d55_0 cj_d55_0 L_0
  exact e2_from hen ha hcall (e2_cutA_ok (e2_fa (fun al st E h hc => EN_0 al st E h hc) e2_fz)) (hC [28]) (X := e2x_229) ex2_229 0 ck_d55_e
/-! d56 X10_layFrom -/
def as_d56 : List ev_V := [(2, 83, 0), (0, 7, 0), (11, 2147483648, 2147483656), (11, 0, 4294967295)]
def E_d56 : e2_E := [(2147483648, 2147583648, 0, 0), (2147483648, 2147483656, 1, 0), (2147483648, 2147483688, 2, 0), (2147483648, 2147483688, 3, 0)]
noncomputable def f_d56 : ev_H := (dn459 : e2_Q8)
noncomputable def q_d56_0 : ev_H := (dn459 : e2_Q8)
noncomputable def rs_d56 : e2_Rs := [((9, 0, 0), q_d56_0)]
noncomputable def s_d56 : e2_Sm := (229, as_d56, E_d56, f_d56, rs_d56)
noncomputable def S_d56 : List e2_Sm := []
noncomputable def I_d56 : List e2_In := [(215, 2, e2x_215), (216, 1, e2x_216), (217, 1, e2x_217), (225, 5, e2x_225), (226, 3, e2x_226), (227, 2, e2x_227), (228, 3, e2x_228)]
set_option maxRecDepth 1000000 in
theorem co_d56 : e2_okSB E_d56.length as_d56 f_d56 rs_d56 = true := by decide +kernel
def al_d56_0 : List ev_V := [(2, 83, 0), (0, 7, 0), (11, 2147483648, 2147483656), (11, 0, 4294967295), (11, 2147483711, 2147483719), (1, 4, 4294967296), (9, 0, 0), (9, 0, 0)]
def E_d56_0 : e2_E := [(2147483648, 2147583648, 0, 0), (2147483648, 2147483656, 1, 0), (2147483648, 2147483688, 2, 0), (2147483648, 2147483688, 3, 0), (2147483648, 2147483656, 4, 0)]
noncomputable def h_d56_0 : ev_H := (dn459 : e2_Q8)
noncomputable def cl_d56_e : List (Nat × e2_S) := [(28, e2_cutL (al_d56_0.set 5 (11, 2147483648, 2147483656)) 4 (E_d56_0.take 4) h_d56_0)]
set_option maxRecDepth 1000000 in
theorem ck_d56_e : e2_run (e2_cal S_d56 I_d56 4000 2) (e2_fin rs_d56) e2x_229 (e2_bpL cl_d56_e) (e2_cutA cl_d56_e) 4000 (e2_seek e2x_229 0) (e2_al 8 as_d56) [] E_d56 f_d56 = true := by decide +kernel
noncomputable def cl_d56_0 : List (Nat × e2_S) := [(28, e2_cutL (al_d56_0.set 5 (13, 12, 2147483656)) 4 (E_d56_0.take 4) h_d56_0)]
set_option maxRecDepth 1000000 in
theorem ck_d56_0 : e2_runM (e2_cal S_d56 I_d56 4000 2) (e2_fin rs_d56) e2x_229 (e2_bpL cl_d56_0) (e2_cutA cl_d56_0) 4000 (e2_seek e2x_229 28) al_d56_0 [] E_d56_0 h_d56_0 = true := by decide +kernel
set_option maxRecDepth 1000000 in
theorem ci_d56_0 : e2_idl 4 (al_d56_0.set 5 (9, 0, 0)) = true := by decide +kernel
set_option maxRecDepth 1000000 in
theorem cj_d56_0 : e2_idh 4 8 h_d56_0 = true := by decide +kernel
theorem cs_d56 (hen : en_ok) (l : Launch) : e2_smOk l 3 s_d56 := by
  refine e2_conG (H := 0) (n := 2) (C := evd_229) (S := S_d56) (I := I_d56) (fuel := 4000) hen ei_229 e2_fz (e2_fa ein_215 (e2_fa ein_216 (e2_fa ein_217 (e2_fa ein_225 (e2_fa ein_226 (e2_fa ein_227 (e2_fa ein_228 e2_fz))))))) (by decide) co_d56 fun M d _ hC hcall p e R s m args below meth c Q D cA A ads r0 ha hl0 => ?_
  have L_0 : e2_gdM M p l e R s m args below meth c Q D cA A ads r0 28 al_d56_0 [] E_d56_0 h_d56_0 := by
    refine e2_indL (u := 4) (j := 5) (lo := 2147483648) (hi := 2147483656) (b := 4) (dd := 0) hl0 (by decide) rfl rfl (Or.inr ⟨rfl, rfl⟩) rfl ci_d56_0 cj_d56_0 ?_
    intro r_0 k_0 hk_0 hp_0 hs_0 hn_0
    have hl_0 : r_0.length ≤ 5 := hs_0.len rfl
    have ha_0 := ha.ext hp_0
    exact e2_fromM hen ha_0 hcall (e2_cutA_ok (e2_fa (fun al st E h hc => hn_0 al st E h hc) e2_fz)) (hC [28]) (X := e2x_229) ex2_229 28 ck_d56_0
  have EN_0 := e2_entL (u := 4) (j := 5) (lo := 2147483648) (hi := 2147483656) hl0 rfl rfl rfl ci_d56_0 cj_d56_0 L_0
  exact e2_from hen ha hcall (e2_cutA_ok (e2_fa (fun al st E h hc => EN_0 al st E h hc) e2_fz)) (hC [28]) (X := e2x_229) ex2_229 0 ck_d56_e
/-! d57 X10_layFrom -/
def as_d57 : List ev_V := [(2, 83, 0), (0, 6, 0), (11, 2147483648, 2147483656), (11, 0, 4294967295)]
def E_d57 : e2_E := [(2147483648, 2147583648, 0, 0), (2147483648, 2147483656, 1, 0), (2147483648, 2147483688, 2, 0), (2147483648, 2147483688, 3, 0)]
noncomputable def f_d57 : ev_H := (dn459 : e2_Q8)
noncomputable def q_d57_0 : ev_H := (dn459 : e2_Q8)
noncomputable def rs_d57 : e2_Rs := [((9, 0, 0), q_d57_0)]
noncomputable def s_d57 : e2_Sm := (229, as_d57, E_d57, f_d57, rs_d57)
noncomputable def S_d57 : List e2_Sm := []
noncomputable def I_d57 : List e2_In := [(215, 2, e2x_215), (216, 1, e2x_216), (217, 1, e2x_217), (225, 5, e2x_225), (226, 3, e2x_226), (227, 2, e2x_227), (228, 3, e2x_228)]
set_option maxRecDepth 1000000 in
theorem co_d57 : e2_okSB E_d57.length as_d57 f_d57 rs_d57 = true := by decide +kernel
def al_d57_0 : List ev_V := [(2, 83, 0), (0, 6, 0), (11, 2147483648, 2147483656), (11, 0, 4294967295), (11, 2147483702, 2147483710), (1, 4, 4294967296), (9, 0, 0), (9, 0, 0)]
def E_d57_0 : e2_E := [(2147483648, 2147583648, 0, 0), (2147483648, 2147483656, 1, 0), (2147483648, 2147483688, 2, 0), (2147483648, 2147483688, 3, 0), (2147483648, 2147483656, 4, 0)]
noncomputable def h_d57_0 : ev_H := (dn459 : e2_Q8)
noncomputable def cl_d57_e : List (Nat × e2_S) := [(28, e2_cutL (al_d57_0.set 5 (11, 2147483648, 2147483656)) 4 (E_d57_0.take 4) h_d57_0)]
set_option maxRecDepth 1000000 in
theorem ck_d57_e : e2_run (e2_cal S_d57 I_d57 4000 2) (e2_fin rs_d57) e2x_229 (e2_bpL cl_d57_e) (e2_cutA cl_d57_e) 4000 (e2_seek e2x_229 0) (e2_al 8 as_d57) [] E_d57 f_d57 = true := by decide +kernel
noncomputable def cl_d57_0 : List (Nat × e2_S) := [(28, e2_cutL (al_d57_0.set 5 (13, 12, 2147483656)) 4 (E_d57_0.take 4) h_d57_0)]
set_option maxRecDepth 1000000 in
theorem ck_d57_0 : e2_runM (e2_cal S_d57 I_d57 4000 2) (e2_fin rs_d57) e2x_229 (e2_bpL cl_d57_0) (e2_cutA cl_d57_0) 4000 (e2_seek e2x_229 28) al_d57_0 [] E_d57_0 h_d57_0 = true := by decide +kernel
set_option maxRecDepth 1000000 in
theorem ci_d57_0 : e2_idl 4 (al_d57_0.set 5 (9, 0, 0)) = true := by decide +kernel
set_option maxRecDepth 1000000 in
theorem cj_d57_0 : e2_idh 4 8 h_d57_0 = true := by decide +kernel
theorem cs_d57 (hen : en_ok) (l : Launch) : e2_smOk l 3 s_d57 := by
  refine e2_conG (H := 0) (n := 2) (C := evd_229) (S := S_d57) (I := I_d57) (fuel := 4000) hen ei_229 e2_fz (e2_fa ein_215 (e2_fa ein_216 (e2_fa ein_217 (e2_fa ein_225 (e2_fa ein_226 (e2_fa ein_227 (e2_fa ein_228 e2_fz))))))) (by decide) co_d57 fun M d _ hC hcall p e R s m args below meth c Q D cA A ads r0 ha hl0 => ?_
  have L_0 : e2_gdM M p l e R s m args below meth c Q D cA A ads r0 28 al_d57_0 [] E_d57_0 h_d57_0 := by
    refine e2_indL (u := 4) (j := 5) (lo := 2147483648) (hi := 2147483656) (b := 4) (dd := 0) hl0 (by decide) rfl rfl (Or.inr ⟨rfl, rfl⟩) rfl ci_d57_0 cj_d57_0 ?_
    intro r_0 k_0 hk_0 hp_0 hs_0 hn_0
    have hl_0 : r_0.length ≤ 5 := hs_0.len rfl
    have ha_0 := ha.ext hp_0
    exact e2_fromM hen ha_0 hcall (e2_cutA_ok (e2_fa (fun al st E h hc => hn_0 al st E h hc) e2_fz)) (hC [28]) (X := e2x_229) ex2_229 28 ck_d57_0
  have EN_0 := e2_entL (u := 4) (j := 5) (lo := 2147483648) (hi := 2147483656) hl0 rfl rfl rfl ci_d57_0 cj_d57_0 L_0
  exact e2_from hen ha hcall (e2_cutA_ok (e2_fa (fun al st E h hc => EN_0 al st E h hc) e2_fz)) (hC [28]) (X := e2x_229) ex2_229 0 ck_d57_e
/-! d58 X10_layFrom -/
def as_d58 : List ev_V := [(2, 83, 0), (0, 5, 0), (11, 2147483648, 2147483656), (11, 0, 4294967295)]
def E_d58 : e2_E := [(2147483648, 2147583648, 0, 0), (2147483648, 2147483656, 1, 0), (2147483648, 2147483688, 2, 0), (2147483648, 2147483688, 3, 0)]
noncomputable def f_d58 : ev_H := (dn459 : e2_Q8)
noncomputable def q_d58_0 : ev_H := (dn459 : e2_Q8)
noncomputable def rs_d58 : e2_Rs := [((9, 0, 0), q_d58_0)]
noncomputable def s_d58 : e2_Sm := (229, as_d58, E_d58, f_d58, rs_d58)
noncomputable def S_d58 : List e2_Sm := []
noncomputable def I_d58 : List e2_In := [(215, 2, e2x_215), (216, 1, e2x_216), (217, 1, e2x_217), (225, 5, e2x_225), (226, 3, e2x_226), (227, 2, e2x_227), (228, 3, e2x_228)]
set_option maxRecDepth 1000000 in
theorem co_d58 : e2_okSB E_d58.length as_d58 f_d58 rs_d58 = true := by decide +kernel
def al_d58_0 : List ev_V := [(2, 83, 0), (0, 5, 0), (11, 2147483648, 2147483656), (11, 0, 4294967295), (11, 2147483693, 2147483701), (1, 4, 4294967296), (9, 0, 0), (9, 0, 0)]
def E_d58_0 : e2_E := [(2147483648, 2147583648, 0, 0), (2147483648, 2147483656, 1, 0), (2147483648, 2147483688, 2, 0), (2147483648, 2147483688, 3, 0), (2147483648, 2147483656, 4, 0)]
noncomputable def h_d58_0 : ev_H := (dn459 : e2_Q8)
noncomputable def cl_d58_e : List (Nat × e2_S) := [(28, e2_cutL (al_d58_0.set 5 (11, 2147483648, 2147483656)) 4 (E_d58_0.take 4) h_d58_0)]
set_option maxRecDepth 1000000 in
theorem ck_d58_e : e2_run (e2_cal S_d58 I_d58 4000 2) (e2_fin rs_d58) e2x_229 (e2_bpL cl_d58_e) (e2_cutA cl_d58_e) 4000 (e2_seek e2x_229 0) (e2_al 8 as_d58) [] E_d58 f_d58 = true := by decide +kernel
noncomputable def cl_d58_0 : List (Nat × e2_S) := [(28, e2_cutL (al_d58_0.set 5 (13, 12, 2147483656)) 4 (E_d58_0.take 4) h_d58_0)]
set_option maxRecDepth 1000000 in
theorem ck_d58_0 : e2_runM (e2_cal S_d58 I_d58 4000 2) (e2_fin rs_d58) e2x_229 (e2_bpL cl_d58_0) (e2_cutA cl_d58_0) 4000 (e2_seek e2x_229 28) al_d58_0 [] E_d58_0 h_d58_0 = true := by decide +kernel
set_option maxRecDepth 1000000 in
theorem ci_d58_0 : e2_idl 4 (al_d58_0.set 5 (9, 0, 0)) = true := by decide +kernel
set_option maxRecDepth 1000000 in
theorem cj_d58_0 : e2_idh 4 8 h_d58_0 = true := by decide +kernel
theorem cs_d58 (hen : en_ok) (l : Launch) : e2_smOk l 3 s_d58 := by
  refine e2_conG (H := 0) (n := 2) (C := evd_229) (S := S_d58) (I := I_d58) (fuel := 4000) hen ei_229 e2_fz (e2_fa ein_215 (e2_fa ein_216 (e2_fa ein_217 (e2_fa ein_225 (e2_fa ein_226 (e2_fa ein_227 (e2_fa ein_228 e2_fz))))))) (by decide) co_d58 fun M d _ hC hcall p e R s m args below meth c Q D cA A ads r0 ha hl0 => ?_
  have L_0 : e2_gdM M p l e R s m args below meth c Q D cA A ads r0 28 al_d58_0 [] E_d58_0 h_d58_0 := by
    refine e2_indL (u := 4) (j := 5) (lo := 2147483648) (hi := 2147483656) (b := 4) (dd := 0) hl0 (by decide) rfl rfl (Or.inr ⟨rfl, rfl⟩) rfl ci_d58_0 cj_d58_0 ?_
    intro r_0 k_0 hk_0 hp_0 hs_0 hn_0
    have hl_0 : r_0.length ≤ 5 := hs_0.len rfl
    have ha_0 := ha.ext hp_0
    exact e2_fromM hen ha_0 hcall (e2_cutA_ok (e2_fa (fun al st E h hc => hn_0 al st E h hc) e2_fz)) (hC [28]) (X := e2x_229) ex2_229 28 ck_d58_0
  have EN_0 := e2_entL (u := 4) (j := 5) (lo := 2147483648) (hi := 2147483656) hl0 rfl rfl rfl ci_d58_0 cj_d58_0 L_0
  exact e2_from hen ha hcall (e2_cutA_ok (e2_fa (fun al st E h hc => EN_0 al st E h hc) e2_fz)) (hC [28]) (X := e2x_229) ex2_229 0 ck_d58_e
/-! d59 X10_layFrom -/
def as_d59 : List ev_V := [(2, 83, 0), (0, 4, 0), (11, 2147483648, 2147483656), (11, 0, 4294967295)]
def E_d59 : e2_E := [(2147483648, 2147583648, 0, 0), (2147483648, 2147483656, 1, 0), (2147483648, 2147483688, 2, 0), (2147483648, 2147483688, 3, 0)]
noncomputable def f_d59 : ev_H := (dn459 : e2_Q8)
noncomputable def q_d59_0 : ev_H := (dn459 : e2_Q8)
noncomputable def rs_d59 : e2_Rs := [((9, 0, 0), q_d59_0)]
noncomputable def s_d59 : e2_Sm := (229, as_d59, E_d59, f_d59, rs_d59)
noncomputable def S_d59 : List e2_Sm := []
noncomputable def I_d59 : List e2_In := [(215, 2, e2x_215), (216, 1, e2x_216), (217, 1, e2x_217), (225, 5, e2x_225), (226, 3, e2x_226), (227, 2, e2x_227), (228, 3, e2x_228)]
set_option maxRecDepth 1000000 in
theorem co_d59 : e2_okSB E_d59.length as_d59 f_d59 rs_d59 = true := by decide +kernel
def al_d59_0 : List ev_V := [(2, 83, 0), (0, 4, 0), (11, 2147483648, 2147483656), (11, 0, 4294967295), (11, 2147483684, 2147483692), (1, 4, 4294967296), (9, 0, 0), (9, 0, 0)]
def E_d59_0 : e2_E := [(2147483648, 2147583648, 0, 0), (2147483648, 2147483656, 1, 0), (2147483648, 2147483688, 2, 0), (2147483648, 2147483688, 3, 0), (2147483648, 2147483656, 4, 0)]
noncomputable def h_d59_0 : ev_H := (dn459 : e2_Q8)
noncomputable def cl_d59_e : List (Nat × e2_S) := [(28, e2_cutL (al_d59_0.set 5 (11, 2147483648, 2147483656)) 4 (E_d59_0.take 4) h_d59_0)]
set_option maxRecDepth 1000000 in
theorem ck_d59_e : e2_run (e2_cal S_d59 I_d59 4000 2) (e2_fin rs_d59) e2x_229 (e2_bpL cl_d59_e) (e2_cutA cl_d59_e) 4000 (e2_seek e2x_229 0) (e2_al 8 as_d59) [] E_d59 f_d59 = true := by decide +kernel
noncomputable def cl_d59_0 : List (Nat × e2_S) := [(28, e2_cutL (al_d59_0.set 5 (13, 12, 2147483656)) 4 (E_d59_0.take 4) h_d59_0)]
set_option maxRecDepth 1000000 in
theorem ck_d59_0 : e2_runM (e2_cal S_d59 I_d59 4000 2) (e2_fin rs_d59) e2x_229 (e2_bpL cl_d59_0) (e2_cutA cl_d59_0) 4000 (e2_seek e2x_229 28) al_d59_0 [] E_d59_0 h_d59_0 = true := by decide +kernel
set_option maxRecDepth 1000000 in
theorem ci_d59_0 : e2_idl 4 (al_d59_0.set 5 (9, 0, 0)) = true := by decide +kernel
set_option maxRecDepth 1000000 in
theorem cj_d59_0 : e2_idh 4 8 h_d59_0 = true := by decide +kernel
theorem cs_d59 (hen : en_ok) (l : Launch) : e2_smOk l 3 s_d59 := by
  refine e2_conG (H := 0) (n := 2) (C := evd_229) (S := S_d59) (I := I_d59) (fuel := 4000) hen ei_229 e2_fz (e2_fa ein_215 (e2_fa ein_216 (e2_fa ein_217 (e2_fa ein_225 (e2_fa ein_226 (e2_fa ein_227 (e2_fa ein_228 e2_fz))))))) (by decide) co_d59 fun M d _ hC hcall p e R s m args below meth c Q D cA A ads r0 ha hl0 => ?_
  have L_0 : e2_gdM M p l e R s m args below meth c Q D cA A ads r0 28 al_d59_0 [] E_d59_0 h_d59_0 := by
    refine e2_indL (u := 4) (j := 5) (lo := 2147483648) (hi := 2147483656) (b := 4) (dd := 0) hl0 (by decide) rfl rfl (Or.inr ⟨rfl, rfl⟩) rfl ci_d59_0 cj_d59_0 ?_
    intro r_0 k_0 hk_0 hp_0 hs_0 hn_0
    have hl_0 : r_0.length ≤ 5 := hs_0.len rfl
    have ha_0 := ha.ext hp_0
    exact e2_fromM hen ha_0 hcall (e2_cutA_ok (e2_fa (fun al st E h hc => hn_0 al st E h hc) e2_fz)) (hC [28]) (X := e2x_229) ex2_229 28 ck_d59_0
  have EN_0 := e2_entL (u := 4) (j := 5) (lo := 2147483648) (hi := 2147483656) hl0 rfl rfl rfl ci_d59_0 cj_d59_0 L_0
  exact e2_from hen ha hcall (e2_cutA_ok (e2_fa (fun al st E h hc => EN_0 al st E h hc) e2_fz)) (hC [28]) (X := e2x_229) ex2_229 0 ck_d59_e
/-! d60 X10_layFrom -/
def as_d60 : List ev_V := [(2, 83, 0), (0, 3, 0), (11, 2147483648, 2147483656), (11, 0, 4294967295)]
def E_d60 : e2_E := [(2147483648, 2147583648, 0, 0), (2147483648, 2147483656, 1, 0), (2147483648, 2147483688, 2, 0), (2147483648, 2147483688, 3, 0)]
noncomputable def f_d60 : ev_H := (dn459 : e2_Q8)
noncomputable def q_d60_0 : ev_H := (dn459 : e2_Q8)
noncomputable def rs_d60 : e2_Rs := [((9, 0, 0), q_d60_0)]
noncomputable def s_d60 : e2_Sm := (229, as_d60, E_d60, f_d60, rs_d60)
noncomputable def S_d60 : List e2_Sm := []
noncomputable def I_d60 : List e2_In := [(215, 2, e2x_215), (216, 1, e2x_216), (217, 1, e2x_217), (225, 5, e2x_225), (226, 3, e2x_226), (227, 2, e2x_227), (228, 3, e2x_228)]
set_option maxRecDepth 1000000 in
theorem co_d60 : e2_okSB E_d60.length as_d60 f_d60 rs_d60 = true := by decide +kernel
def al_d60_0 : List ev_V := [(2, 83, 0), (0, 3, 0), (11, 2147483648, 2147483656), (11, 0, 4294967295), (11, 2147483675, 2147483683), (1, 4, 4294967296), (9, 0, 0), (9, 0, 0)]
def E_d60_0 : e2_E := [(2147483648, 2147583648, 0, 0), (2147483648, 2147483656, 1, 0), (2147483648, 2147483688, 2, 0), (2147483648, 2147483688, 3, 0), (2147483648, 2147483656, 4, 0)]
noncomputable def h_d60_0 : ev_H := (dn459 : e2_Q8)
noncomputable def cl_d60_e : List (Nat × e2_S) := [(28, e2_cutL (al_d60_0.set 5 (11, 2147483648, 2147483656)) 4 (E_d60_0.take 4) h_d60_0)]
set_option maxRecDepth 1000000 in
theorem ck_d60_e : e2_run (e2_cal S_d60 I_d60 4000 2) (e2_fin rs_d60) e2x_229 (e2_bpL cl_d60_e) (e2_cutA cl_d60_e) 4000 (e2_seek e2x_229 0) (e2_al 8 as_d60) [] E_d60 f_d60 = true := by decide +kernel
noncomputable def cl_d60_0 : List (Nat × e2_S) := [(28, e2_cutL (al_d60_0.set 5 (13, 12, 2147483656)) 4 (E_d60_0.take 4) h_d60_0)]
set_option maxRecDepth 1000000 in
theorem ck_d60_0 : e2_runM (e2_cal S_d60 I_d60 4000 2) (e2_fin rs_d60) e2x_229 (e2_bpL cl_d60_0) (e2_cutA cl_d60_0) 4000 (e2_seek e2x_229 28) al_d60_0 [] E_d60_0 h_d60_0 = true := by decide +kernel
set_option maxRecDepth 1000000 in
theorem ci_d60_0 : e2_idl 4 (al_d60_0.set 5 (9, 0, 0)) = true := by decide +kernel
set_option maxRecDepth 1000000 in
theorem cj_d60_0 : e2_idh 4 8 h_d60_0 = true := by decide +kernel
theorem cs_d60 (hen : en_ok) (l : Launch) : e2_smOk l 3 s_d60 := by
  refine e2_conG (H := 0) (n := 2) (C := evd_229) (S := S_d60) (I := I_d60) (fuel := 4000) hen ei_229 e2_fz (e2_fa ein_215 (e2_fa ein_216 (e2_fa ein_217 (e2_fa ein_225 (e2_fa ein_226 (e2_fa ein_227 (e2_fa ein_228 e2_fz))))))) (by decide) co_d60 fun M d _ hC hcall p e R s m args below meth c Q D cA A ads r0 ha hl0 => ?_
  have L_0 : e2_gdM M p l e R s m args below meth c Q D cA A ads r0 28 al_d60_0 [] E_d60_0 h_d60_0 := by
    refine e2_indL (u := 4) (j := 5) (lo := 2147483648) (hi := 2147483656) (b := 4) (dd := 0) hl0 (by decide) rfl rfl (Or.inr ⟨rfl, rfl⟩) rfl ci_d60_0 cj_d60_0 ?_
    intro r_0 k_0 hk_0 hp_0 hs_0 hn_0
    have hl_0 : r_0.length ≤ 5 := hs_0.len rfl
    have ha_0 := ha.ext hp_0
    exact e2_fromM hen ha_0 hcall (e2_cutA_ok (e2_fa (fun al st E h hc => hn_0 al st E h hc) e2_fz)) (hC [28]) (X := e2x_229) ex2_229 28 ck_d60_0
  have EN_0 := e2_entL (u := 4) (j := 5) (lo := 2147483648) (hi := 2147483656) hl0 rfl rfl rfl ci_d60_0 cj_d60_0 L_0
  exact e2_from hen ha hcall (e2_cutA_ok (e2_fa (fun al st E h hc => EN_0 al st E h hc) e2_fz)) (hC [28]) (X := e2x_229) ex2_229 0 ck_d60_e
/-! d61 X10_layFrom -/
def as_d61 : List ev_V := [(2, 83, 0), (0, 2, 0), (11, 2147483648, 2147483656), (11, 0, 4294967295)]
def E_d61 : e2_E := [(2147483648, 2147583648, 0, 0), (2147483648, 2147483656, 1, 0), (2147483648, 2147483688, 2, 0), (2147483648, 2147483688, 3, 0)]
noncomputable def f_d61 : ev_H := (dn459 : e2_Q8)
noncomputable def q_d61_0 : ev_H := (dn459 : e2_Q8)
noncomputable def rs_d61 : e2_Rs := [((9, 0, 0), q_d61_0)]
noncomputable def s_d61 : e2_Sm := (229, as_d61, E_d61, f_d61, rs_d61)
noncomputable def S_d61 : List e2_Sm := []
noncomputable def I_d61 : List e2_In := [(215, 2, e2x_215), (216, 1, e2x_216), (217, 1, e2x_217), (225, 5, e2x_225), (226, 3, e2x_226), (227, 2, e2x_227), (228, 3, e2x_228)]
set_option maxRecDepth 1000000 in
theorem co_d61 : e2_okSB E_d61.length as_d61 f_d61 rs_d61 = true := by decide +kernel
def al_d61_0 : List ev_V := [(2, 83, 0), (0, 2, 0), (11, 2147483648, 2147483656), (11, 0, 4294967295), (11, 2147483666, 2147483674), (1, 4, 4294967296), (9, 0, 0), (9, 0, 0)]
def E_d61_0 : e2_E := [(2147483648, 2147583648, 0, 0), (2147483648, 2147483656, 1, 0), (2147483648, 2147483688, 2, 0), (2147483648, 2147483688, 3, 0), (2147483648, 2147483656, 4, 0)]
noncomputable def h_d61_0 : ev_H := (dn459 : e2_Q8)
noncomputable def cl_d61_e : List (Nat × e2_S) := [(28, e2_cutL (al_d61_0.set 5 (11, 2147483648, 2147483656)) 4 (E_d61_0.take 4) h_d61_0)]
set_option maxRecDepth 1000000 in
theorem ck_d61_e : e2_run (e2_cal S_d61 I_d61 4000 2) (e2_fin rs_d61) e2x_229 (e2_bpL cl_d61_e) (e2_cutA cl_d61_e) 4000 (e2_seek e2x_229 0) (e2_al 8 as_d61) [] E_d61 f_d61 = true := by decide +kernel
noncomputable def cl_d61_0 : List (Nat × e2_S) := [(28, e2_cutL (al_d61_0.set 5 (13, 12, 2147483656)) 4 (E_d61_0.take 4) h_d61_0)]
set_option maxRecDepth 1000000 in
theorem ck_d61_0 : e2_runM (e2_cal S_d61 I_d61 4000 2) (e2_fin rs_d61) e2x_229 (e2_bpL cl_d61_0) (e2_cutA cl_d61_0) 4000 (e2_seek e2x_229 28) al_d61_0 [] E_d61_0 h_d61_0 = true := by decide +kernel
set_option maxRecDepth 1000000 in
theorem ci_d61_0 : e2_idl 4 (al_d61_0.set 5 (9, 0, 0)) = true := by decide +kernel
set_option maxRecDepth 1000000 in
theorem cj_d61_0 : e2_idh 4 8 h_d61_0 = true := by decide +kernel
theorem cs_d61 (hen : en_ok) (l : Launch) : e2_smOk l 3 s_d61 := by
  refine e2_conG (H := 0) (n := 2) (C := evd_229) (S := S_d61) (I := I_d61) (fuel := 4000) hen ei_229 e2_fz (e2_fa ein_215 (e2_fa ein_216 (e2_fa ein_217 (e2_fa ein_225 (e2_fa ein_226 (e2_fa ein_227 (e2_fa ein_228 e2_fz))))))) (by decide) co_d61 fun M d _ hC hcall p e R s m args below meth c Q D cA A ads r0 ha hl0 => ?_
  have L_0 : e2_gdM M p l e R s m args below meth c Q D cA A ads r0 28 al_d61_0 [] E_d61_0 h_d61_0 := by
    refine e2_indL (u := 4) (j := 5) (lo := 2147483648) (hi := 2147483656) (b := 4) (dd := 0) hl0 (by decide) rfl rfl (Or.inr ⟨rfl, rfl⟩) rfl ci_d61_0 cj_d61_0 ?_
    intro r_0 k_0 hk_0 hp_0 hs_0 hn_0
    have hl_0 : r_0.length ≤ 5 := hs_0.len rfl
    have ha_0 := ha.ext hp_0
    exact e2_fromM hen ha_0 hcall (e2_cutA_ok (e2_fa (fun al st E h hc => hn_0 al st E h hc) e2_fz)) (hC [28]) (X := e2x_229) ex2_229 28 ck_d61_0
  have EN_0 := e2_entL (u := 4) (j := 5) (lo := 2147483648) (hi := 2147483656) hl0 rfl rfl rfl ci_d61_0 cj_d61_0 L_0
  exact e2_from hen ha hcall (e2_cutA_ok (e2_fa (fun al st E h hc => EN_0 al st E h hc) e2_fz)) (hC [28]) (X := e2x_229) ex2_229 0 ck_d61_e
