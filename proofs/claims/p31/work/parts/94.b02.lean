/-! CONTRACTS b, printed by a program -/
/-! b26 X10_layFrom -/
def as_b26 : List ev_V := [(2, 83, 0), (0, 17, 0), (11, 2147483648, 2147483656), (11, 0, 4294967295)]
def E_b26 : e2_E := [(2147483648, 2147583648, 0, 0), (2147483648, 2147483656, 1, 0), (2147483648, 2147483688, 2, 0), (2147483648, 2147483688, 3, 0)]
noncomputable def f_b26 : ev_H := (bn453 : e2_Q8)
noncomputable def q_b26_0 : ev_H := (bn453 : e2_Q8)
noncomputable def rs_b26 : e2_Rs := [((9, 0, 0), q_b26_0)]
noncomputable def s_b26 : e2_Sm := (229, as_b26, E_b26, f_b26, rs_b26)
noncomputable def S_b26 : List e2_Sm := []
noncomputable def I_b26 : List e2_In := [(215, 2, e2x_215), (216, 1, e2x_216), (217, 1, e2x_217), (225, 5, e2x_225), (226, 3, e2x_226), (227, 2, e2x_227), (228, 3, e2x_228)]
set_option maxRecDepth 1000000 in
theorem co_b26 : e2_okSB E_b26.length as_b26 f_b26 rs_b26 = true := by decide +kernel
def al_b26_0 : List ev_V := [(2, 83, 0), (0, 17, 0), (11, 2147483648, 2147483656), (11, 0, 4294967295), (11, 2147483801, 2147483809), (1, 4, 4294967296), (9, 0, 0), (9, 0, 0)]
def E_b26_0 : e2_E := [(2147483648, 2147583648, 0, 0), (2147483648, 2147483656, 1, 0), (2147483648, 2147483688, 2, 0), (2147483648, 2147483688, 3, 0), (2147483648, 2147483656, 4, 0)]
noncomputable def h_b26_0 : ev_H := (bn453 : e2_Q8)
noncomputable def cl_b26_e : List (Nat × e2_S) := [(28, e2_cutL (al_b26_0.set 5 (11, 2147483648, 2147483656)) 4 (E_b26_0.take 4) h_b26_0)]
set_option maxRecDepth 1000000 in
theorem ck_b26_e : e2_run (e2_cal S_b26 I_b26 4000 2) (e2_fin rs_b26) e2x_229 (e2_bpL cl_b26_e) (e2_cutA cl_b26_e) 4000 (e2_seek e2x_229 0) (e2_al 8 as_b26) [] E_b26 f_b26 = true := by decide +kernel
noncomputable def cl_b26_0 : List (Nat × e2_S) := [(28, e2_cutL (al_b26_0.set 5 (13, 12, 2147483656)) 4 (E_b26_0.take 4) h_b26_0)]
set_option maxRecDepth 1000000 in
theorem ck_b26_0 : e2_runM (e2_cal S_b26 I_b26 4000 2) (e2_fin rs_b26) e2x_229 (e2_bpL cl_b26_0) (e2_cutA cl_b26_0) 4000 (e2_seek e2x_229 28) al_b26_0 [] E_b26_0 h_b26_0 = true := by decide +kernel
set_option maxRecDepth 1000000 in
theorem ci_b26_0 : e2_idl 4 (al_b26_0.set 5 (9, 0, 0)) = true := by decide +kernel
set_option maxRecDepth 1000000 in
theorem cj_b26_0 : e2_idh 4 8 h_b26_0 = true := by decide +kernel
theorem cs_b26 (hen : en_ok) (l : Launch) : e2_smOk l 3 s_b26 := by
  refine e2_conG (H := 0) (n := 2) (C := evd_229) (S := S_b26) (I := I_b26) (fuel := 4000) hen ei_229 e2_fz (e2_fa ein_215 (e2_fa ein_216 (e2_fa ein_217 (e2_fa ein_225 (e2_fa ein_226 (e2_fa ein_227 (e2_fa ein_228 e2_fz))))))) (by decide) co_b26 fun M d _ hC hcall p e R s m args below meth c Q D cA A ads r0 ha hl0 => ?_
  have L_0 : e2_gdM M p l e R s m args below meth c Q D cA A ads r0 28 al_b26_0 [] E_b26_0 h_b26_0 := by
    refine e2_indL (u := 4) (j := 5) (lo := 2147483648) (hi := 2147483656) (b := 4) (dd := 0) hl0 (by decide) rfl rfl (Or.inr ⟨rfl, rfl⟩) rfl ci_b26_0 cj_b26_0 ?_
    intro r_0 k_0 hk_0 hp_0 hs_0 hn_0
    have hl_0 : r_0.length ≤ 5 := hs_0.len rfl
    have ha_0 := ha.ext hp_0
    exact e2_fromM hen ha_0 hcall (e2_cutA_ok (e2_fa (fun al st E h hc => hn_0 al st E h hc) e2_fz)) (hC [28]) (X := e2x_229) ex2_229 28 ck_b26_0
  have EN_0 := e2_entL (u := 4) (j := 5) (lo := 2147483648) (hi := 2147483656) hl0 rfl rfl rfl ci_b26_0 cj_b26_0 L_0
  exact e2_from hen ha hcall (e2_cutA_ok (e2_fa (fun al st E h hc => EN_0 al st E h hc) e2_fz)) (hC [28]) (X := e2x_229) ex2_229 0 ck_b26_e
/-! b27 X10_layFrom -/
def as_b27 : List ev_V := [(2, 83, 0), (0, 16, 0), (11, 2147483648, 2147483656), (11, 0, 4294967295)]
def E_b27 : e2_E := [(2147483648, 2147583648, 0, 0), (2147483648, 2147483656, 1, 0), (2147483648, 2147483688, 2, 0), (2147483648, 2147483688, 3, 0)]
noncomputable def f_b27 : ev_H := (bn453 : e2_Q8)
noncomputable def q_b27_0 : ev_H := (bn453 : e2_Q8)
noncomputable def rs_b27 : e2_Rs := [((9, 0, 0), q_b27_0)]
noncomputable def s_b27 : e2_Sm := (229, as_b27, E_b27, f_b27, rs_b27)
noncomputable def S_b27 : List e2_Sm := []
noncomputable def I_b27 : List e2_In := [(215, 2, e2x_215), (216, 1, e2x_216), (217, 1, e2x_217), (225, 5, e2x_225), (226, 3, e2x_226), (227, 2, e2x_227), (228, 3, e2x_228)]
set_option maxRecDepth 1000000 in
theorem co_b27 : e2_okSB E_b27.length as_b27 f_b27 rs_b27 = true := by decide +kernel
def al_b27_0 : List ev_V := [(2, 83, 0), (0, 16, 0), (11, 2147483648, 2147483656), (11, 0, 4294967295), (11, 2147483792, 2147483800), (1, 4, 4294967296), (9, 0, 0), (9, 0, 0)]
def E_b27_0 : e2_E := [(2147483648, 2147583648, 0, 0), (2147483648, 2147483656, 1, 0), (2147483648, 2147483688, 2, 0), (2147483648, 2147483688, 3, 0), (2147483648, 2147483656, 4, 0)]
noncomputable def h_b27_0 : ev_H := (bn453 : e2_Q8)
noncomputable def cl_b27_e : List (Nat × e2_S) := [(28, e2_cutL (al_b27_0.set 5 (11, 2147483648, 2147483656)) 4 (E_b27_0.take 4) h_b27_0)]
set_option maxRecDepth 1000000 in
theorem ck_b27_e : e2_run (e2_cal S_b27 I_b27 4000 2) (e2_fin rs_b27) e2x_229 (e2_bpL cl_b27_e) (e2_cutA cl_b27_e) 4000 (e2_seek e2x_229 0) (e2_al 8 as_b27) [] E_b27 f_b27 = true := by decide +kernel
noncomputable def cl_b27_0 : List (Nat × e2_S) := [(28, e2_cutL (al_b27_0.set 5 (13, 12, 2147483656)) 4 (E_b27_0.take 4) h_b27_0)]
set_option maxRecDepth 1000000 in
theorem ck_b27_0 : e2_runM (e2_cal S_b27 I_b27 4000 2) (e2_fin rs_b27) e2x_229 (e2_bpL cl_b27_0) (e2_cutA cl_b27_0) 4000 (e2_seek e2x_229 28) al_b27_0 [] E_b27_0 h_b27_0 = true := by decide +kernel
set_option maxRecDepth 1000000 in
theorem ci_b27_0 : e2_idl 4 (al_b27_0.set 5 (9, 0, 0)) = true := by decide +kernel
set_option maxRecDepth 1000000 in
theorem cj_b27_0 : e2_idh 4 8 h_b27_0 = true := by decide +kernel
theorem cs_b27 (hen : en_ok) (l : Launch) : e2_smOk l 3 s_b27 := by
  refine e2_conG (H := 0) (n := 2) (C := evd_229) (S := S_b27) (I := I_b27) (fuel := 4000) hen ei_229 e2_fz (e2_fa ein_215 (e2_fa ein_216 (e2_fa ein_217 (e2_fa ein_225 (e2_fa ein_226 (e2_fa ein_227 (e2_fa ein_228 e2_fz))))))) (by decide) co_b27 fun M d _ hC hcall p e R s m args below meth c Q D cA A ads r0 ha hl0 => ?_
  have L_0 : e2_gdM M p l e R s m args below meth c Q D cA A ads r0 28 al_b27_0 [] E_b27_0 h_b27_0 := by
    refine e2_indL (u := 4) (j := 5) (lo := 2147483648) (hi := 2147483656) (b := 4) (dd := 0) hl0 (by decide) rfl rfl (Or.inr ⟨rfl, rfl⟩) rfl ci_b27_0 cj_b27_0 ?_
    intro r_0 k_0 hk_0 hp_0 hs_0 hn_0
    have hl_0 : r_0.length ≤ 5 := hs_0.len rfl
    have ha_0 := ha.ext hp_0
    exact e2_fromM hen ha_0 hcall (e2_cutA_ok (e2_fa (fun al st E h hc => hn_0 al st E h hc) e2_fz)) (hC [28]) (X := e2x_229) ex2_229 28 ck_b27_0
  have EN_0 := e2_entL (u := 4) (j := 5) (lo := 2147483648) (hi := 2147483656) hl0 rfl rfl rfl ci_b27_0 cj_b27_0 L_0
  exact e2_from hen ha hcall (e2_cutA_ok (e2_fa (fun al st E h hc => EN_0 al st E h hc) e2_fz)) (hC [28]) (X := e2x_229) ex2_229 0 ck_b27_e
/-! b28 X10_layFrom -/
def as_b28 : List ev_V := [(2, 83, 0), (0, 15, 0), (11, 2147483648, 2147483656), (11, 0, 4294967295)]
def E_b28 : e2_E := [(2147483648, 2147583648, 0, 0), (2147483648, 2147483656, 1, 0), (2147483648, 2147483688, 2, 0), (2147483648, 2147483688, 3, 0)]
noncomputable def f_b28 : ev_H := (bn453 : e2_Q8)
noncomputable def q_b28_0 : ev_H := (bn453 : e2_Q8)
noncomputable def rs_b28 : e2_Rs := [((9, 0, 0), q_b28_0)]
noncomputable def s_b28 : e2_Sm := (229, as_b28, E_b28, f_b28, rs_b28)
noncomputable def S_b28 : List e2_Sm := []
noncomputable def I_b28 : List e2_In := [(215, 2, e2x_215), (216, 1, e2x_216), (217, 1, e2x_217), (225, 5, e2x_225), (226, 3, e2x_226), (227, 2, e2x_227), (228, 3, e2x_228)]
set_option maxRecDepth 1000000 in
theorem co_b28 : e2_okSB E_b28.length as_b28 f_b28 rs_b28 = true := by decide +kernel
def al_b28_0 : List ev_V := [(2, 83, 0), (0, 15, 0), (11, 2147483648, 2147483656), (11, 0, 4294967295), (11, 2147483783, 2147483791), (1, 4, 4294967296), (9, 0, 0), (9, 0, 0)]
def E_b28_0 : e2_E := [(2147483648, 2147583648, 0, 0), (2147483648, 2147483656, 1, 0), (2147483648, 2147483688, 2, 0), (2147483648, 2147483688, 3, 0), (2147483648, 2147483656, 4, 0)]
noncomputable def h_b28_0 : ev_H := (bn453 : e2_Q8)
noncomputable def cl_b28_e : List (Nat × e2_S) := [(28, e2_cutL (al_b28_0.set 5 (11, 2147483648, 2147483656)) 4 (E_b28_0.take 4) h_b28_0)]
set_option maxRecDepth 1000000 in
theorem ck_b28_e : e2_run (e2_cal S_b28 I_b28 4000 2) (e2_fin rs_b28) e2x_229 (e2_bpL cl_b28_e) (e2_cutA cl_b28_e) 4000 (e2_seek e2x_229 0) (e2_al 8 as_b28) [] E_b28 f_b28 = true := by decide +kernel
noncomputable def cl_b28_0 : List (Nat × e2_S) := [(28, e2_cutL (al_b28_0.set 5 (13, 12, 2147483656)) 4 (E_b28_0.take 4) h_b28_0)]
set_option maxRecDepth 1000000 in
theorem ck_b28_0 : e2_runM (e2_cal S_b28 I_b28 4000 2) (e2_fin rs_b28) e2x_229 (e2_bpL cl_b28_0) (e2_cutA cl_b28_0) 4000 (e2_seek e2x_229 28) al_b28_0 [] E_b28_0 h_b28_0 = true := by decide +kernel
set_option maxRecDepth 1000000 in
theorem ci_b28_0 : e2_idl 4 (al_b28_0.set 5 (9, 0, 0)) = true := by decide +kernel
set_option maxRecDepth 1000000 in
theorem cj_b28_0 : e2_idh 4 8 h_b28_0 = true := by decide +kernel
theorem cs_b28 (hen : en_ok) (l : Launch) : e2_smOk l 3 s_b28 := by
  refine e2_conG (H := 0) (n := 2) (C := evd_229) (S := S_b28) (I := I_b28) (fuel := 4000) hen ei_229 e2_fz (e2_fa ein_215 (e2_fa ein_216 (e2_fa ein_217 (e2_fa ein_225 (e2_fa ein_226 (e2_fa ein_227 (e2_fa ein_228 e2_fz))))))) (by decide) co_b28 fun M d _ hC hcall p e R s m args below meth c Q D cA A ads r0 ha hl0 => ?_
  have L_0 : e2_gdM M p l e R s m args below meth c Q D cA A ads r0 28 al_b28_0 [] E_b28_0 h_b28_0 := by
    refine e2_indL (u := 4) (j := 5) (lo := 2147483648) (hi := 2147483656) (b := 4) (dd := 0) hl0 (by decide) rfl rfl (Or.inr ⟨rfl, rfl⟩) rfl ci_b28_0 cj_b28_0 ?_
    intro r_0 k_0 hk_0 hp_0 hs_0 hn_0
    have hl_0 : r_0.length ≤ 5 := hs_0.len rfl
    have ha_0 := ha.ext hp_0
    exact e2_fromM hen ha_0 hcall (e2_cutA_ok (e2_fa (fun al st E h hc => hn_0 al st E h hc) e2_fz)) (hC [28]) (X := e2x_229) ex2_229 28 ck_b28_0
  have EN_0 := e2_entL (u := 4) (j := 5) (lo := 2147483648) (hi := 2147483656) hl0 rfl rfl rfl ci_b28_0 cj_b28_0 L_0
  exact e2_from hen ha hcall (e2_cutA_ok (e2_fa (fun al st E h hc => EN_0 al st E h hc) e2_fz)) (hC [28]) (X := e2x_229) ex2_229 0 ck_b28_e
/-! b29 X10_layFrom -/
def as_b29 : List ev_V := [(2, 83, 0), (0, 14, 0), (11, 2147483648, 2147483656), (11, 0, 4294967295)]
def E_b29 : e2_E := [(2147483648, 2147583648, 0, 0), (2147483648, 2147483656, 1, 0), (2147483648, 2147483688, 2, 0), (2147483648, 2147483688, 3, 0)]
noncomputable def f_b29 : ev_H := (bn453 : e2_Q8)
noncomputable def q_b29_0 : ev_H := (bn453 : e2_Q8)
noncomputable def rs_b29 : e2_Rs := [((9, 0, 0), q_b29_0)]
noncomputable def s_b29 : e2_Sm := (229, as_b29, E_b29, f_b29, rs_b29)
noncomputable def S_b29 : List e2_Sm := []
noncomputable def I_b29 : List e2_In := [(215, 2, e2x_215), (216, 1, e2x_216), (217, 1, e2x_217), (225, 5, e2x_225), (226, 3, e2x_226), (227, 2, e2x_227), (228, 3, e2x_228)]
set_option maxRecDepth 1000000 in
theorem co_b29 : e2_okSB E_b29.length as_b29 f_b29 rs_b29 = true := by decide +kernel
def al_b29_0 : List ev_V := [(2, 83, 0), (0, 14, 0), (11, 2147483648, 2147483656), (11, 0, 4294967295), (11, 2147483774, 2147483782), (1, 4, 4294967296), (9, 0, 0), (9, 0, 0)]
def E_b29_0 : e2_E := [(2147483648, 2147583648, 0, 0), (2147483648, 2147483656, 1, 0), (2147483648, 2147483688, 2, 0), (2147483648, 2147483688, 3, 0), (2147483648, 2147483656, 4, 0)]
noncomputable def h_b29_0 : ev_H := (bn453 : e2_Q8)
noncomputable def cl_b29_e : List (Nat × e2_S) := [(28, e2_cutL (al_b29_0.set 5 (11, 2147483648, 2147483656)) 4 (E_b29_0.take 4) h_b29_0)]
set_option maxRecDepth 1000000 in
theorem ck_b29_e : e2_run (e2_cal S_b29 I_b29 4000 2) (e2_fin rs_b29) e2x_229 (e2_bpL cl_b29_e) (e2_cutA cl_b29_e) 4000 (e2_seek e2x_229 0) (e2_al 8 as_b29) [] E_b29 f_b29 = true := by decide +kernel
noncomputable def cl_b29_0 : List (Nat × e2_S) := [(28, e2_cutL (al_b29_0.set 5 (13, 12, 2147483656)) 4 (E_b29_0.take 4) h_b29_0)]
set_option maxRecDepth 1000000 in
theorem ck_b29_0 : e2_runM (e2_cal S_b29 I_b29 4000 2) (e2_fin rs_b29) e2x_229 (e2_bpL cl_b29_0) (e2_cutA cl_b29_0) 4000 (e2_seek e2x_229 28) al_b29_0 [] E_b29_0 h_b29_0 = true := by decide +kernel
set_option maxRecDepth 1000000 in
theorem ci_b29_0 : e2_idl 4 (al_b29_0.set 5 (9, 0, 0)) = true := by decide +kernel
set_option maxRecDepth 1000000 in
theorem cj_b29_0 : e2_idh 4 8 h_b29_0 = true := by decide +kernel
theorem cs_b29 (hen : en_ok) (l : Launch) : e2_smOk l 3 s_b29 := by
  refine e2_conG (H := 0) (n := 2) (C := evd_229) (S := S_b29) (I := I_b29) (fuel := 4000) hen ei_229 e2_fz (e2_fa ein_215 (e2_fa ein_216 (e2_fa ein_217 (e2_fa ein_225 (e2_fa ein_226 (e2_fa ein_227 (e2_fa ein_228 e2_fz))))))) (by decide) co_b29 fun M d _ hC hcall p e R s m args below meth c Q D cA A ads r0 ha hl0 => ?_
  have L_0 : e2_gdM M p l e R s m args below meth c Q D cA A ads r0 28 al_b29_0 [] E_b29_0 h_b29_0 := by
    refine e2_indL (u := 4) (j := 5) (lo := 2147483648) (hi := 2147483656) (b := 4) (dd := 0) hl0 (by decide) rfl rfl (Or.inr ⟨rfl, rfl⟩) rfl ci_b29_0 cj_b29_0 ?_
    intro r_0 k_0 hk_0 hp_0 hs_0 hn_0
    have hl_0 : r_0.length ≤ 5 := hs_0.len rfl
    have ha_0 := ha.ext hp_0
    exact e2_fromM hen ha_0 hcall (e2_cutA_ok (e2_fa (fun al st E h hc => hn_0 al st E h hc) e2_fz)) (hC [28]) (X := e2x_229) ex2_229 28 ck_b29_0
  have EN_0 := e2_entL (u := 4) (j := 5) (lo := 2147483648) (hi := 2147483656) hl0 rfl rfl rfl ci_b29_0 cj_b29_0 L_0
  exact e2_from hen ha hcall (e2_cutA_ok (e2_fa (fun al st E h hc => EN_0 al st E h hc) e2_fz)) (hC [28]) (X := e2x_229) ex2_229 0 ck_b29_e
/-! b30 X10_layFrom -/
def as_b30 : List ev_V := [(2, 83, 0), (0, 13, 0), (11, 2147483648, 2147483656), (11, 0, 4294967295)]
def E_b30 : e2_E := [(2147483648, 2147583648, 0, 0), (2147483648, 2147483656, 1, 0), (2147483648, 2147483688, 2, 0), (2147483648, 2147483688, 3, 0)]
noncomputable def f_b30 : ev_H := (bn453 : e2_Q8)
noncomputable def q_b30_0 : ev_H := (bn453 : e2_Q8)
noncomputable def rs_b30 : e2_Rs := [((9, 0, 0), q_b30_0)]
noncomputable def s_b30 : e2_Sm := (229, as_b30, E_b30, f_b30, rs_b30)
noncomputable def S_b30 : List e2_Sm := []
noncomputable def I_b30 : List e2_In := [(215, 2, e2x_215), (216, 1, e2x_216), (217, 1, e2x_217), (225, 5, e2x_225), (226, 3, e2x_226), (227, 2, e2x_227), (228, 3, e2x_228)]
set_option maxRecDepth 1000000 in
theorem co_b30 : e2_okSB E_b30.length as_b30 f_b30 rs_b30 = true := by decide +kernel
def al_b30_0 : List ev_V := [(2, 83, 0), (0, 13, 0), (11, 2147483648, 2147483656), (11, 0, 4294967295), (11, 2147483765, 2147483773), (1, 4, 4294967296), (9, 0, 0), (9, 0, 0)]
def E_b30_0 : e2_E := [(2147483648, 2147583648, 0, 0), (2147483648, 2147483656, 1, 0), (2147483648, 2147483688, 2, 0), (2147483648, 2147483688, 3, 0), (2147483648, 2147483656, 4, 0)]
noncomputable def h_b30_0 : ev_H := (bn453 : e2_Q8)
noncomputable def cl_b30_e : List (Nat × e2_S) := [(28, e2_cutL (al_b30_0.set 5 (11, 2147483648, 2147483656)) 4 (E_b30_0.take 4) h_b30_0)]
set_option maxRecDepth 1000000 in
theorem ck_b30_e : e2_run (e2_cal S_b30 I_b30 4000 2) (e2_fin rs_b30) e2x_229 (e2_bpL cl_b30_e) (e2_cutA cl_b30_e) 4000 (e2_seek e2x_229 0) (e2_al 8 as_b30) [] E_b30 f_b30 = true := by decide +kernel
noncomputable def cl_b30_0 : List (Nat × e2_S) := [(28, e2_cutL (al_b30_0.set 5 (13, 12, 2147483656)) 4 (E_b30_0.take 4) h_b30_0)]
set_option maxRecDepth 1000000 in
theorem ck_b30_0 : e2_runM (e2_cal S_b30 I_b30 4000 2) (e2_fin rs_b30) e2x_229 (e2_bpL cl_b30_0) (e2_cutA cl_b30_0) 4000 (e2_seek e2x_229 28) al_b30_0 [] E_b30_0 h_b30_0 = true := by decide +kernel
set_option maxRecDepth 1000000 in
theorem ci_b30_0 : e2_idl 4 (al_b30_0.set 5 (9, 0, 0)) = true := by decide +kernel
set_option maxRecDepth 1000000 in
theorem cj_b30_0 : e2_idh 4 8 h_b30_0 = true := by decide +kernel
theorem cs_b30 (hen : en_ok) (l : Launch) : e2_smOk l 3 s_b30 := by
  refine e2_conG (H := 0) (n := 2) (C := evd_229) (S := S_b30) (I := I_b30) (fuel := 4000) hen ei_229 e2_fz (e2_fa ein_215 (e2_fa ein_216 (e2_fa ein_217 (e2_fa ein_225 (e2_fa ein_226 (e2_fa ein_227 (e2_fa ein_228 e2_fz))))))) (by decide) co_b30 fun M d _ hC hcall p e R s m args below meth c Q D cA A ads r0 ha hl0 => ?_
  have L_0 : e2_gdM M p l e R s m args below meth c Q D cA A ads r0 28 al_b30_0 [] E_b30_0 h_b30_0 := by
    refine e2_indL (u := 4) (j := 5) (lo := 2147483648) (hi := 2147483656) (b := 4) (dd := 0) hl0 (by decide) rfl rfl (Or.inr ⟨rfl, rfl⟩) rfl ci_b30_0 cj_b30_0 ?_
    intro r_0 k_0 hk_0 hp_0 hs_0 hn_0
    have hl_0 : r_0.length ≤ 5 := hs_0.len rfl
    have ha_0 := ha.ext hp_0
    exact e2_fromM hen ha_0 hcall (e2_cutA_ok (e2_fa (fun al st E h hc => hn_0 al st E h hc) e2_fz)) (hC [28]) (X := e2x_229) ex2_229 28 ck_b30_0
  have EN_0 := e2_entL (u := 4) (j := 5) (lo := 2147483648) (hi := 2147483656) hl0 rfl rfl rfl ci_b30_0 cj_b30_0 L_0
  exact e2_from hen ha hcall (e2_cutA_ok (e2_fa (fun al st E h hc => EN_0 al st E h hc) e2_fz)) (hC [28]) (X := e2x_229) ex2_229 0 ck_b30_e
/-! b31 X10_layFrom -/
def as_b31 : List ev_V := [(2, 83, 0), (0, 12, 0), (11, 2147483648, 2147483656), (11, 0, 4294967295)]
def E_b31 : e2_E := [(2147483648, 2147583648, 0, 0), (2147483648, 2147483656, 1, 0), (2147483648, 2147483688, 2, 0), (2147483648, 2147483688, 3, 0)]
noncomputable def f_b31 : ev_H := (bn453 : e2_Q8)
noncomputable def q_b31_0 : ev_H := (bn453 : e2_Q8)
noncomputable def rs_b31 : e2_Rs := [((9, 0, 0), q_b31_0)]
noncomputable def s_b31 : e2_Sm := (229, as_b31, E_b31, f_b31, rs_b31)
noncomputable def S_b31 : List e2_Sm := []
noncomputable def I_b31 : List e2_In := [(215, 2, e2x_215), (216, 1, e2x_216), (217, 1, e2x_217), (225, 5, e2x_225), (226, 3, e2x_226), (227, 2, e2x_227), (228, 3, e2x_228)]
set_option maxRecDepth 1000000 in
theorem co_b31 : e2_okSB E_b31.length as_b31 f_b31 rs_b31 = true := by decide +kernel
def al_b31_0 : List ev_V := [(2, 83, 0), (0, 12, 0), (11, 2147483648, 2147483656), (11, 0, 4294967295), (11, 2147483756, 2147483764), (1, 4, 4294967296), (9, 0, 0), (9, 0, 0)]
def E_b31_0 : e2_E := [(2147483648, 2147583648, 0, 0), (2147483648, 2147483656, 1, 0), (2147483648, 2147483688, 2, 0), (2147483648, 2147483688, 3, 0), (2147483648, 2147483656, 4, 0)]
noncomputable def h_b31_0 : ev_H := (bn453 : e2_Q8)
noncomputable def cl_b31_e : List (Nat × e2_S) := [(28, e2_cutL (al_b31_0.set 5 (11, 2147483648, 2147483656)) 4 (E_b31_0.take 4) h_b31_0)]
set_option maxRecDepth 1000000 in
theorem ck_b31_e : e2_run (e2_cal S_b31 I_b31 4000 2) (e2_fin rs_b31) e2x_229 (e2_bpL cl_b31_e) (e2_cutA cl_b31_e) 4000 (e2_seek e2x_229 0) (e2_al 8 as_b31) [] E_b31 f_b31 = true := by decide +kernel
noncomputable def cl_b31_0 : List (Nat × e2_S) := [(28, e2_cutL (al_b31_0.set 5 (13, 12, 2147483656)) 4 (E_b31_0.take 4) h_b31_0)]
set_option maxRecDepth 1000000 in
theorem ck_b31_0 : e2_runM (e2_cal S_b31 I_b31 4000 2) (e2_fin rs_b31) e2x_229 (e2_bpL cl_b31_0) (e2_cutA cl_b31_0) 4000 (e2_seek e2x_229 28) al_b31_0 [] E_b31_0 h_b31_0 = true := by decide +kernel
set_option maxRecDepth 1000000 in
theorem ci_b31_0 : e2_idl 4 (al_b31_0.set 5 (9, 0, 0)) = true := by decide +kernel
set_option maxRecDepth 1000000 in
theorem cj_b31_0 : e2_idh 4 8 h_b31_0 = true := by decide +kernel
theorem cs_b31 (hen : en_ok) (l : Launch) : e2_smOk l 3 s_b31 := by
  refine e2_conG (H := 0) (n := 2) (C := evd_229) (S := S_b31) (I := I_b31) (fuel := 4000) hen ei_229 e2_fz (e2_fa ein_215 (e2_fa ein_216 (e2_fa ein_217 (e2_fa ein_225 (e2_fa ein_226 (e2_fa ein_227 (e2_fa ein_228 e2_fz))))))) (by decide) co_b31 fun M d _ hC hcall p e R s m args below meth c Q D cA A ads r0 ha hl0 => ?_
  have L_0 : e2_gdM M p l e R s m args below meth c Q D cA A ads r0 28 al_b31_0 [] E_b31_0 h_b31_0 := by
    refine e2_indL (u := 4) (j := 5) (lo := 2147483648) (hi := 2147483656) (b := 4) (dd := 0) hl0 (by decide) rfl rfl (Or.inr ⟨rfl, rfl⟩) rfl ci_b31_0 cj_b31_0 ?_
    intro r_0 k_0 hk_0 hp_0 hs_0 hn_0
    have hl_0 : r_0.length ≤ 5 := hs_0.len rfl
    have ha_0 := ha.ext hp_0
    exact e2_fromM hen ha_0 hcall (e2_cutA_ok (e2_fa (fun al st E h hc => hn_0 al st E h hc) e2_fz)) (hC [28]) (X := e2x_229) ex2_229 28 ck_b31_0
  have EN_0 := e2_entL (u := 4) (j := 5) (lo := 2147483648) (hi := 2147483656) hl0 rfl rfl rfl ci_b31_0 cj_b31_0 L_0
  exact e2_from hen ha hcall (e2_cutA_ok (e2_fa (fun al st E h hc => EN_0 al st E h hc) e2_fz)) (hC [28]) (X := e2x_229) ex2_229 0 ck_b31_e
/-! b32 X10_layFrom -/
def as_b32 : List ev_V := [(2, 83, 0), (0, 11, 0), (11, 2147483648, 2147483656), (11, 0, 4294967295)]
def E_b32 : e2_E := [(2147483648, 2147583648, 0, 0), (2147483648, 2147483656, 1, 0), (2147483648, 2147483688, 2, 0), (2147483648, 2147483688, 3, 0)]
noncomputable def f_b32 : ev_H := (bn453 : e2_Q8)
noncomputable def q_b32_0 : ev_H := (bn453 : e2_Q8)
noncomputable def rs_b32 : e2_Rs := [((9, 0, 0), q_b32_0)]
noncomputable def s_b32 : e2_Sm := (229, as_b32, E_b32, f_b32, rs_b32)
noncomputable def S_b32 : List e2_Sm := []
noncomputable def I_b32 : List e2_In := [(215, 2, e2x_215), (216, 1, e2x_216), (217, 1, e2x_217), (225, 5, e2x_225), (226, 3, e2x_226), (227, 2, e2x_227), (228, 3, e2x_228)]
set_option maxRecDepth 1000000 in
theorem co_b32 : e2_okSB E_b32.length as_b32 f_b32 rs_b32 = true := by decide +kernel
def al_b32_0 : List ev_V := [(2, 83, 0), (0, 11, 0), (11, 2147483648, 2147483656), (11, 0, 4294967295), (11, 2147483747, 2147483755), (1, 4, 4294967296), (9, 0, 0), (9, 0, 0)]
def E_b32_0 : e2_E := [(2147483648, 2147583648, 0, 0), (2147483648, 2147483656, 1, 0), (2147483648, 2147483688, 2, 0), (2147483648, 2147483688, 3, 0), (2147483648, 2147483656, 4, 0)]
noncomputable def h_b32_0 : ev_H := (bn453 : e2_Q8)
noncomputable def cl_b32_e : List (Nat × e2_S) := [(28, e2_cutL (al_b32_0.set 5 (11, 2147483648, 2147483656)) 4 (E_b32_0.take 4) h_b32_0)]
set_option maxRecDepth 1000000 in
theorem ck_b32_e : e2_run (e2_cal S_b32 I_b32 4000 2) (e2_fin rs_b32) e2x_229 (e2_bpL cl_b32_e) (e2_cutA cl_b32_e) 4000 (e2_seek e2x_229 0) (e2_al 8 as_b32) [] E_b32 f_b32 = true := by decide +kernel
noncomputable def cl_b32_0 : List (Nat × e2_S) := [(28, e2_cutL (al_b32_0.set 5 (13, 12, 2147483656)) 4 (E_b32_0.take 4) h_b32_0)]
set_option maxRecDepth 1000000 in
theorem ck_b32_0 : e2_runM (e2_cal S_b32 I_b32 4000 2) (e2_fin rs_b32) e2x_229 (e2_bpL cl_b32_0) (e2_cutA cl_b32_0) 4000 (e2_seek e2x_229 28) al_b32_0 [] E_b32_0 h_b32_0 = true := by decide +kernel
set_option maxRecDepth 1000000 in
theorem ci_b32_0 : e2_idl 4 (al_b32_0.set 5 (9, 0, 0)) = true := by decide +kernel
set_option maxRecDepth 1000000 in
theorem cj_b32_0 : e2_idh 4 8 h_b32_0 = true := by decide +kernel
theorem cs_b32 (hen : en_ok) (l : Launch) : e2_smOk l 3 s_b32 := by
  refine e2_conG (H := 0) (n := 2) (C := evd_229) (S := S_b32) (I := I_b32) (fuel := 4000) hen ei_229 e2_fz (e2_fa ein_215 (e2_fa ein_216 (e2_fa ein_217 (e2_fa ein_225 (e2_fa ein_226 (e2_fa ein_227 (e2_fa ein_228 e2_fz))))))) (by decide) co_b32 fun M d _ hC hcall p e R s m args below meth c Q D cA A ads r0 ha hl0 => ?_
  have L_0 : e2_gdM M p l e R s m args below meth c Q D cA A ads r0 28 al_b32_0 [] E_b32_0 h_b32_0 := by
    refine e2_indL (u := 4) (j := 5) (lo := 2147483648) (hi := 2147483656) (b := 4) (dd := 0) hl0 (by decide) rfl rfl (Or.inr ⟨rfl, rfl⟩) rfl ci_b32_0 cj_b32_0 ?_
    intro r_0 k_0 hk_0 hp_0 hs_0 hn_0
    have hl_0 : r_0.length ≤ 5 := hs_0.len rfl
    have ha_0 := ha.ext hp_0
    exact e2_fromM hen ha_0 hcall (e2_cutA_ok (e2_fa (fun al st E h hc => hn_0 al st E h hc) e2_fz)) (hC [28]) (X := e2x_229) ex2_229 28 ck_b32_0
  have EN_0 := e2_entL (u := 4) (j := 5) (lo := 2147483648) (hi := 2147483656) hl0 rfl rfl rfl ci_b32_0 cj_b32_0 L_0
  exact e2_from hen ha hcall (e2_cutA_ok (e2_fa (fun al st E h hc => EN_0 al st E h hc) e2_fz)) (hC [28]) (X := e2x_229) ex2_229 0 ck_b32_e
/-! b33 X10_layFrom -/
def as_b33 : List ev_V := [(2, 83, 0), (0, 10, 0), (11, 2147483648, 2147483656), (11, 0, 4294967295)]
def E_b33 : e2_E := [(2147483648, 2147583648, 0, 0), (2147483648, 2147483656, 1, 0), (2147483648, 2147483688, 2, 0), (2147483648, 2147483688, 3, 0)]
noncomputable def f_b33 : ev_H := (bn453 : e2_Q8)
noncomputable def q_b33_0 : ev_H := (bn453 : e2_Q8)
noncomputable def rs_b33 : e2_Rs := [((9, 0, 0), q_b33_0)]
noncomputable def s_b33 : e2_Sm := (229, as_b33, E_b33, f_b33, rs_b33)
noncomputable def S_b33 : List e2_Sm := []
noncomputable def I_b33 : List e2_In := [(215, 2, e2x_215), (216, 1, e2x_216), (217, 1, e2x_217), (225, 5, e2x_225), (226, 3, e2x_226), (227, 2, e2x_227), (228, 3, e2x_228)]
set_option maxRecDepth 1000000 in
theorem co_b33 : e2_okSB E_b33.length as_b33 f_b33 rs_b33 = true := by decide +kernel
def al_b33_0 : List ev_V := [(2, 83, 0), (0, 10, 0), (11, 2147483648, 2147483656), (11, 0, 4294967295), (11, 2147483738, 2147483746), (1, 4, 4294967296), (9, 0, 0), (9, 0, 0)]
def E_b33_0 : e2_E := [(2147483648, 2147583648, 0, 0), (2147483648, 2147483656, 1, 0), (2147483648, 2147483688, 2, 0), (2147483648, 2147483688, 3, 0), (2147483648, 2147483656, 4, 0)]
noncomputable def h_b33_0 : ev_H := (bn453 : e2_Q8)
noncomputable def cl_b33_e : List (Nat × e2_S) := [(28, e2_cutL (al_b33_0.set 5 (11, 2147483648, 2147483656)) 4 (E_b33_0.take 4) h_b33_0)]
set_option maxRecDepth 1000000 in
theorem ck_b33_e : e2_run (e2_cal S_b33 I_b33 4000 2) (e2_fin rs_b33) e2x_229 (e2_bpL cl_b33_e) (e2_cutA cl_b33_e) 4000 (e2_seek e2x_229 0) (e2_al 8 as_b33) [] E_b33 f_b33 = true := by decide +kernel
noncomputable def cl_b33_0 : List (Nat × e2_S) := [(28, e2_cutL (al_b33_0.set 5 (13, 12, 2147483656)) 4 (E_b33_0.take 4) h_b33_0)]
set_option maxRecDepth 1000000 in
theorem ck_b33_0 : e2_runM (e2_cal S_b33 I_b33 4000 2) (e2_fin rs_b33) e2x_229 (e2_bpL cl_b33_0) (e2_cutA cl_b33_0) 4000 (e2_seek e2x_229 28) al_b33_0 [] E_b33_0 h_b33_0 = true := by decide +kernel
set_option maxRecDepth 1000000 in
theorem ci_b33_0 : e2_idl 4 (al_b33_0.set 5 (9, 0, 0)) = true := by decide +kernel
set_option maxRecDepth 1000000 in
theorem cj_b33_0 : e2_idh 4 8 h_b33_0 = true := by decide +kernel
theorem cs_b33 (hen : en_ok) (l : Launch) : e2_smOk l 3 s_b33 := by
  refine e2_conG (H := 0) (n := 2) (C := evd_229) (S := S_b33) (I := I_b33) (fuel := 4000) hen ei_229 e2_fz (e2_fa ein_215 (e2_fa ein_216 (e2_fa ein_217 (e2_fa ein_225 (e2_fa ein_226 (e2_fa ein_227 (e2_fa ein_228 e2_fz))))))) (by decide) co_b33 fun M d _ hC hcall p e R s m args below meth c Q D cA A ads r0 ha hl0 => ?_
  have L_0 : e2_gdM M p l e R s m args below meth c Q D cA A ads r0 28 al_b33_0 [] E_b33_0 h_b33_0 := by
    refine e2_indL (u := 4) (j := 5) (lo := 2147483648) (hi := 2147483656) (b := 4) (dd := 0) hl0 (by decide) rfl rfl (Or.inr ⟨rfl, rfl⟩) rfl ci_b33_0 cj_b33_0 ?_
    intro r_0 k_0 hk_0 hp_0 hs_0 hn_0
    have hl_0 : r_0.length ≤ 5 := hs_0.len rfl
    have ha_0 := ha.ext hp_0
    exact e2_fromM hen ha_0 hcall (e2_cutA_ok (e2_fa (fun al st E h hc => hn_0 al st E h hc) e2_fz)) (hC [28]) (X := e2x_229) ex2_229 28 ck_b33_0
  have EN_0 := e2_entL (u := 4) (j := 5) (lo := 2147483648) (hi := 2147483656) hl0 rfl rfl rfl ci_b33_0 cj_b33_0 L_0
  exact e2_from hen ha hcall (e2_cutA_ok (e2_fa (fun al st E h hc => EN_0 al st E h hc) e2_fz)) (hC [28]) (X := e2x_229) ex2_229 0 ck_b33_e
/-! b34 X10_layFrom -/
def as_b34 : List ev_V := [(2, 83, 0), (0, 9, 0), (11, 2147483648, 2147483656), (11, 0, 4294967295)]
def E_b34 : e2_E := [(2147483648, 2147583648, 0, 0), (2147483648, 2147483656, 1, 0), (2147483648, 2147483688, 2, 0), (2147483648, 2147483688, 3, 0)]
noncomputable def f_b34 : ev_H := (bn453 : e2_Q8)
noncomputable def q_b34_0 : ev_H := (bn453 : e2_Q8)
noncomputable def rs_b34 : e2_Rs := [((9, 0, 0), q_b34_0)]
noncomputable def s_b34 : e2_Sm := (229, as_b34, E_b34, f_b34, rs_b34)
noncomputable def S_b34 : List e2_Sm := []
noncomputable def I_b34 : List e2_In := [(215, 2, e2x_215), (216, 1, e2x_216), (217, 1, e2x_217), (225, 5, e2x_225), (226, 3, e2x_226), (227, 2, e2x_227), (228, 3, e2x_228)]
set_option maxRecDepth 1000000 in
theorem co_b34 : e2_okSB E_b34.length as_b34 f_b34 rs_b34 = true := by decide +kernel
def al_b34_0 : List ev_V := [(2, 83, 0), (0, 9, 0), (11, 2147483648, 2147483656), (11, 0, 4294967295), (11, 2147483729, 2147483737), (1, 4, 4294967296), (9, 0, 0), (9, 0, 0)]
def E_b34_0 : e2_E := [(2147483648, 2147583648, 0, 0), (2147483648, 2147483656, 1, 0), (2147483648, 2147483688, 2, 0), (2147483648, 2147483688, 3, 0), (2147483648, 2147483656, 4, 0)]
noncomputable def h_b34_0 : ev_H := (bn453 : e2_Q8)
noncomputable def cl_b34_e : List (Nat × e2_S) := [(28, e2_cutL (al_b34_0.set 5 (11, 2147483648, 2147483656)) 4 (E_b34_0.take 4) h_b34_0)]
set_option maxRecDepth 1000000 in
theorem ck_b34_e : e2_run (e2_cal S_b34 I_b34 4000 2) (e2_fin rs_b34) e2x_229 (e2_bpL cl_b34_e) (e2_cutA cl_b34_e) 4000 (e2_seek e2x_229 0) (e2_al 8 as_b34) [] E_b34 f_b34 = true := by decide +kernel
noncomputable def cl_b34_0 : List (Nat × e2_S) := [(28, e2_cutL (al_b34_0.set 5 (13, 12, 2147483656)) 4 (E_b34_0.take 4) h_b34_0)]
set_option maxRecDepth 1000000 in
theorem ck_b34_0 : e2_runM (e2_cal S_b34 I_b34 4000 2) (e2_fin rs_b34) e2x_229 (e2_bpL cl_b34_0) (e2_cutA cl_b34_0) 4000 (e2_seek e2x_229 28) al_b34_0 [] E_b34_0 h_b34_0 = true := by decide +kernel
set_option maxRecDepth 1000000 in
theorem ci_b34_0 : e2_idl 4 (al_b34_0.set 5 (9, 0, 0)) = true := by decide +kernel
set_option maxRecDepth 1000000 in
theorem cj_b34_0 : e2_idh 4 8 h_b34_0 = true := by decide +kernel
theorem cs_b34 (hen : en_ok) (l : Launch) : e2_smOk l 3 s_b34 := by
  refine e2_conG (H := 0) (n := 2) (C := evd_229) (S := S_b34) (I := I_b34) (fuel := 4000) hen ei_229 e2_fz (e2_fa ein_215 (e2_fa ein_216 (e2_fa ein_217 (e2_fa ein_225 (e2_fa ein_226 (e2_fa ein_227 (e2_fa ein_228 e2_fz))))))) (by decide) co_b34 fun M d _ hC hcall p e R s m args below meth c Q D cA A ads r0 ha hl0 => ?_
  have L_0 : e2_gdM M p l e R s m args below meth c Q D cA A ads r0 28 al_b34_0 [] E_b34_0 h_b34_0 := by
    refine e2_indL (u := 4) (j := 5) (lo := 2147483648) (hi := 2147483656) (b := 4) (dd := 0) hl0 (by decide) rfl rfl (Or.inr ⟨rfl, rfl⟩) rfl ci_b34_0 cj_b34_0 ?_
    intro r_0 k_0 hk_0 hp_0 hs_0 hn_0
    have hl_0 : r_0.length ≤ 5 := hs_0.len rfl
    have ha_0 := ha.ext hp_0
    exact e2_fromM hen ha_0 hcall (e2_cutA_ok (e2_fa (fun al st E h hc => hn_0 al st E h hc) e2_fz)) (hC [28]) (X := e2x_229) ex2_229 28 ck_b34_0
  have EN_0 := e2_entL (u := 4) (j := 5) (lo := 2147483648) (hi := 2147483656) hl0 rfl rfl rfl ci_b34_0 cj_b34_0 L_0
  exact e2_from hen ha hcall (e2_cutA_ok (e2_fa (fun al st E h hc => EN_0 al st E h hc) e2_fz)) (hC [28]) (X := e2x_229) ex2_229 0 ck_b34_e
/-! b35 X10_layFrom -/
def as_b35 : List ev_V := [(2, 83, 0), (0, 8, 0), (11, 2147483648, 2147483656), (11, 0, 4294967295)]
def E_b35 : e2_E := [(2147483648, 2147583648, 0, 0), (2147483648, 2147483656, 1, 0), (2147483648, 2147483688, 2, 0), (2147483648, 2147483688, 3, 0)]
noncomputable def f_b35 : ev_H := (bn453 : e2_Q8)
noncomputable def q_b35_0 : ev_H := (bn453 : e2_Q8)
noncomputable def rs_b35 : e2_Rs := [((9, 0, 0), q_b35_0)]
noncomputable def s_b35 : e2_Sm := (229, as_b35, E_b35, f_b35, rs_b35)
noncomputable def S_b35 : List e2_Sm := []
noncomputable def I_b35 : List e2_In := [(215, 2, e2x_215), (216, 1, e2x_216), (217, 1, e2x_217), (225, 5, e2x_225), (226, 3, e2x_226), (227, 2, e2x_227), (228, 3, e2x_228)]
set_option maxRecDepth 1000000 in
theorem co_b35 : e2_okSB E_b35.length as_b35 f_b35 rs_b35 = true := by decide +kernel
def al_b35_0 : List ev_V := [(2, 83, 0), (0, 8, 0), (11, 2147483648, 2147483656), (11, 0, 4294967295), (11, 2147483720, 2147483728), (1, 4, 4294967296), (9, 0, 0), (9, 0, 0)]
def E_b35_0 : e2_E := [(2147483648, 2147583648, 0, 0), (2147483648, 2147483656, 1, 0), (2147483648, 2147483688, 2, 0), (2147483648, 2147483688, 3, 0), (2147483648, 2147483656, 4, 0)]
noncomputable def h_b35_0 : ev_H := (bn453 : e2_Q8)
noncomputable def cl_b35_e : List (Nat × e2_S) := [(28, e2_cutL (al_b35_0.set 5 (11, 2147483648, 2147483656)) 4 (E_b35_0.take 4) h_b35_0)]
set_option maxRecDepth 1000000 in
theorem ck_b35_e : e2_run (e2_cal S_b35 I_b35 4000 2) (e2_fin rs_b35) e2x_229 (e2_bpL cl_b35_e) (e2_cutA cl_b35_e) 4000 (e2_seek e2x_229 0) (e2_al 8 as_b35) [] E_b35 f_b35 = true := by decide +kernel
noncomputable def cl_b35_0 : List (Nat × e2_S) := [(28, e2_cutL (al_b35_0.set 5 (13, 12, 2147483656)) 4 (E_b35_0.take 4) h_b35_0)]
set_option maxRecDepth 1000000 in
theorem ck_b35_0 : e2_runM (e2_cal S_b35 I_b35 4000 2) (e2_fin rs_b35) e2x_229 (e2_bpL cl_b35_0) (e2_cutA cl_b35_0) 4000 (e2_seek e2x_229 28) al_b35_0 [] E_b35_0 h_b35_0 = true := by decide +kernel
set_option maxRecDepth 1000000 in
theorem ci_b35_0 : e2_idl 4 (al_b35_0.set 5 (9, 0, 0)) = true := by decide +kernel
set_option maxRecDepth 1000000 in
theorem cj_b35_0 : e2_idh 4 8 h_b35_0 = true := by decide +kernel
theorem cs_b35 (hen : en_ok) (l : Launch) : e2_smOk l 3 s_b35 := by
  refine e2_conG (H := 0) (n := 2) (C := evd_229) (S := S_b35) (I := I_b35) (fuel := 4000) hen ei_229 e2_fz (e2_fa ein_215 (e2_fa ein_216 (e2_fa ein_217 (e2_fa ein_225 (e2_fa ein_226 (e2_fa ein_227 (e2_fa ein_228 e2_fz))))))) (by decide) co_b35 fun M d _ hC hcall p e R s m args below meth c Q D cA A ads r0 ha hl0 => ?_
  have L_0 : e2_gdM M p l e R s m args below meth c Q D cA A ads r0 28 al_b35_0 [] E_b35_0 h_b35_0 := by
    refine e2_indL (u := 4) (j := 5) (lo := 2147483648) (hi := 2147483656) (b := 4) (dd := 0) hl0 (by decide) rfl rfl (Or.inr ⟨rfl, rfl⟩) rfl ci_b35_0 cj_b35_0 ?_
    intro r_0 k_0 hk_0 hp_0 hs_0 hn_0
    have hl_0 : r_0.length ≤ 5 := hs_0.len rfl
    have ha_0 := ha.ext hp_0
    exact e2_fromM hen ha_0 hcall (e2_cutA_ok (e2_fa (fun al st E h hc => hn_0 al st E h hc) e2_fz)) (hC [28]) (X := e2x_229) ex2_229 28 ck_b35_0
  have EN_0 := e2_entL (u := 4) (j := 5) (lo := 2147483648) (hi := 2147483656) hl0 rfl rfl rfl ci_b35_0 cj_b35_0 L_0
  exact e2_from hen ha hcall (e2_cutA_ok (e2_fa (fun al st E h hc => EN_0 al st E h hc) e2_fz)) (hC [28]) (X := e2x_229) ex2_229 0 ck_b35_e
/-! b36 X10_layFrom -/
def as_b36 : List ev_V := [(2, 83, 0), (0, 7, 0), (11, 2147483648, 2147483656), (11, 0, 4294967295)]
def E_b36 : e2_E := [(2147483648, 2147583648, 0, 0), (2147483648, 2147483656, 1, 0), (2147483648, 2147483688, 2, 0), (2147483648, 2147483688, 3, 0)]
noncomputable def f_b36 : ev_H := (bn453 : e2_Q8)
noncomputable def q_b36_0 : ev_H := (bn453 : e2_Q8)
noncomputable def rs_b36 : e2_Rs := [((9, 0, 0), q_b36_0)]
noncomputable def s_b36 : e2_Sm := (229, as_b36, E_b36, f_b36, rs_b36)
noncomputable def S_b36 : List e2_Sm := []
noncomputable def I_b36 : List e2_In := [(215, 2, e2x_215), (216, 1, e2x_216), (217, 1, e2x_217), (225, 5, e2x_225), (226, 3, e2x_226), (227, 2, e2x_227), (228, 3, e2x_228)]
set_option maxRecDepth 1000000 in
theorem co_b36 : e2_okSB E_b36.length as_b36 f_b36 rs_b36 = true := by decide +kernel
def al_b36_0 : List ev_V := [(2, 83, 0), (0, 7, 0), (11, 2147483648, 2147483656), (11, 0, 4294967295), (11, 2147483711, 2147483719), (1, 4, 4294967296), (9, 0, 0), (9, 0, 0)]
def E_b36_0 : e2_E := [(2147483648, 2147583648, 0, 0), (2147483648, 2147483656, 1, 0), (2147483648, 2147483688, 2, 0), (2147483648, 2147483688, 3, 0), (2147483648, 2147483656, 4, 0)]
noncomputable def h_b36_0 : ev_H := (bn453 : e2_Q8)
noncomputable def cl_b36_e : List (Nat × e2_S) := [(28, e2_cutL (al_b36_0.set 5 (11, 2147483648, 2147483656)) 4 (E_b36_0.take 4) h_b36_0)]
set_option maxRecDepth 1000000 in
theorem ck_b36_e : e2_run (e2_cal S_b36 I_b36 4000 2) (e2_fin rs_b36) e2x_229 (e2_bpL cl_b36_e) (e2_cutA cl_b36_e) 4000 (e2_seek e2x_229 0) (e2_al 8 as_b36) [] E_b36 f_b36 = true := by decide +kernel
noncomputable def cl_b36_0 : List (Nat × e2_S) := [(28, e2_cutL (al_b36_0.set 5 (13, 12, 2147483656)) 4 (E_b36_0.take 4) h_b36_0)]
set_option maxRecDepth 1000000 in
theorem ck_b36_0 : e2_runM (e2_cal S_b36 I_b36 4000 2) (e2_fin rs_b36) e2x_229 (e2_bpL cl_b36_0) (e2_cutA cl_b36_0) 4000 (e2_seek e2x_229 28) al_b36_0 [] E_b36_0 h_b36_0 = true := by decide +kernel
set_option maxRecDepth 1000000 in
theorem ci_b36_0 : e2_idl 4 (al_b36_0.set 5 (9, 0, 0)) = true := by decide +kernel
set_option maxRecDepth 1000000 in
theorem cj_b36_0 : e2_idh 4 8 h_b36_0 = true := by decide +kernel
theorem cs_b36 (hen : en_ok) (l : Launch) : e2_smOk l 3 s_b36 := by
  refine e2_conG (H := 0) (n := 2) (C := evd_229) (S := S_b36) (I := I_b36) (fuel := 4000) hen ei_229 e2_fz (e2_fa ein_215 (e2_fa ein_216 (e2_fa ein_217 (e2_fa ein_225 (e2_fa ein_226 (e2_fa ein_227 (e2_fa ein_228 e2_fz))))))) (by decide) co_b36 fun M d _ hC hcall p e R s m args below meth c Q D cA A ads r0 ha hl0 => ?_
  have L_0 : e2_gdM M p l e R s m args below meth c Q D cA A ads r0 28 al_b36_0 [] E_b36_0 h_b36_0 := by
    refine e2_indL (u := 4) (j := 5) (lo := 2147483648) (hi := 2147483656) (b := 4) (dd := 0) hl0 (by decide) rfl rfl (Or.inr ⟨rfl, rfl⟩) rfl ci_b36_0 cj_b36_0 ?_
    intro r_0 k_0 hk_0 hp_0 hs_0 hn_0
    have hl_0 : r_0.length ≤ 5 := hs_0.len rfl
    have ha_0 := ha.ext hp_0
    exact e2_fromM hen ha_0 hcall (e2_cutA_ok (e2_fa (fun al st E h hc => hn_0 al st E h hc) e2_fz)) (hC [28]) (X := e2x_229) ex2_229 28 ck_b36_0
  have EN_0 := e2_entL (u := 4) (j := 5) (lo := 2147483648) (hi := 2147483656) hl0 rfl rfl rfl ci_b36_0 cj_b36_0 L_0
  exact e2_from hen ha hcall (e2_cutA_ok (e2_fa (fun al st E h hc => EN_0 al st E h hc) e2_fz)) (hC [28]) (X := e2x_229) ex2_229 0 ck_b36_e
/-! b37 X10_layFrom -/
def as_b37 : List ev_V := [(2, 83, 0), (0, 6, 0), (11, 2147483648, 2147483656), (11, 0, 4294967295)]
def E_b37 : e2_E := [(2147483648, 2147583648, 0, 0), (2147483648, 2147483656, 1, 0), (2147483648, 2147483688, 2, 0), (2147483648, 2147483688, 3, 0)]
noncomputable def f_b37 : ev_H := (bn453 : e2_Q8)
noncomputable def q_b37_0 : ev_H := (bn453 : e2_Q8)
noncomputable def rs_b37 : e2_Rs := [((9, 0, 0), q_b37_0)]
noncomputable def s_b37 : e2_Sm := (229, as_b37, E_b37, f_b37, rs_b37)
noncomputable def S_b37 : List e2_Sm := []
noncomputable def I_b37 : List e2_In := [(215, 2, e2x_215), (216, 1, e2x_216), (217, 1, e2x_217), (225, 5, e2x_225), (226, 3, e2x_226), (227, 2, e2x_227), (228, 3, e2x_228)]
set_option maxRecDepth 1000000 in
theorem co_b37 : e2_okSB E_b37.length as_b37 f_b37 rs_b37 = true := by decide +kernel
def al_b37_0 : List ev_V := [(2, 83, 0), (0, 6, 0), (11, 2147483648, 2147483656), (11, 0, 4294967295), (11, 2147483702, 2147483710), (1, 4, 4294967296), (9, 0, 0), (9, 0, 0)]
def E_b37_0 : e2_E := [(2147483648, 2147583648, 0, 0), (2147483648, 2147483656, 1, 0), (2147483648, 2147483688, 2, 0), (2147483648, 2147483688, 3, 0), (2147483648, 2147483656, 4, 0)]
noncomputable def h_b37_0 : ev_H := (bn453 : e2_Q8)
noncomputable def cl_b37_e : List (Nat × e2_S) := [(28, e2_cutL (al_b37_0.set 5 (11, 2147483648, 2147483656)) 4 (E_b37_0.take 4) h_b37_0)]
set_option maxRecDepth 1000000 in
theorem ck_b37_e : e2_run (e2_cal S_b37 I_b37 4000 2) (e2_fin rs_b37) e2x_229 (e2_bpL cl_b37_e) (e2_cutA cl_b37_e) 4000 (e2_seek e2x_229 0) (e2_al 8 as_b37) [] E_b37 f_b37 = true := by decide +kernel
noncomputable def cl_b37_0 : List (Nat × e2_S) := [(28, e2_cutL (al_b37_0.set 5 (13, 12, 2147483656)) 4 (E_b37_0.take 4) h_b37_0)]
set_option maxRecDepth 1000000 in
theorem ck_b37_0 : e2_runM (e2_cal S_b37 I_b37 4000 2) (e2_fin rs_b37) e2x_229 (e2_bpL cl_b37_0) (e2_cutA cl_b37_0) 4000 (e2_seek e2x_229 28) al_b37_0 [] E_b37_0 h_b37_0 = true := by decide +kernel
set_option maxRecDepth 1000000 in
theorem ci_b37_0 : e2_idl 4 (al_b37_0.set 5 (9, 0, 0)) = true := by decide +kernel
set_option maxRecDepth 1000000 in
theorem cj_b37_0 : e2_idh 4 8 h_b37_0 = true := by decide +kernel
theorem cs_b37 (hen : en_ok) (l : Launch) : e2_smOk l 3 s_b37 := by
  refine e2_conG (H := 0) (n := 2) (C := evd_229) (S := S_b37) (I := I_b37) (fuel := 4000) hen ei_229 e2_fz (e2_fa ein_215 (e2_fa ein_216 (e2_fa ein_217 (e2_fa ein_225 (e2_fa ein_226 (e2_fa ein_227 (e2_fa ein_228 e2_fz))))))) (by decide) co_b37 fun M d _ hC hcall p e R s m args below meth c Q D cA A ads r0 ha hl0 => ?_
  have L_0 : e2_gdM M p l e R s m args below meth c Q D cA A ads r0 28 al_b37_0 [] E_b37_0 h_b37_0 := by
    refine e2_indL (u := 4) (j := 5) (lo := 2147483648) (hi := 2147483656) (b := 4) (dd := 0) hl0 (by decide) rfl rfl (Or.inr ⟨rfl, rfl⟩) rfl ci_b37_0 cj_b37_0 ?_
    intro r_0 k_0 hk_0 hp_0 hs_0 hn_0
    have hl_0 : r_0.length ≤ 5 := hs_0.len rfl
    have ha_0 := ha.ext hp_0
    exact e2_fromM hen ha_0 hcall (e2_cutA_ok (e2_fa (fun al st E h hc => hn_0 al st E h hc) e2_fz)) (hC [28]) (X := e2x_229) ex2_229 28 ck_b37_0
  have EN_0 := e2_entL (u := 4) (j := 5) (lo := 2147483648) (hi := 2147483656) hl0 rfl rfl rfl ci_b37_0 cj_b37_0 L_0
  exact e2_from hen ha hcall (e2_cutA_ok (e2_fa (fun al st E h hc => EN_0 al st E h hc) e2_fz)) (hC [28]) (X := e2x_229) ex2_229 0 ck_b37_e
/-! b38 X10_layFrom -/
def as_b38 : List ev_V := [(2, 83, 0), (0, 5, 0), (11, 2147483648, 2147483656), (11, 0, 4294967295)]
def E_b38 : e2_E := [(2147483648, 2147583648, 0, 0), (2147483648, 2147483656, 1, 0), (2147483648, 2147483688, 2, 0), (2147483648, 2147483688, 3, 0)]
noncomputable def f_b38 : ev_H := (bn453 : e2_Q8)
noncomputable def q_b38_0 : ev_H := (bn453 : e2_Q8)
noncomputable def rs_b38 : e2_Rs := [((9, 0, 0), q_b38_0)]
noncomputable def s_b38 : e2_Sm := (229, as_b38, E_b38, f_b38, rs_b38)
noncomputable def S_b38 : List e2_Sm := []
noncomputable def I_b38 : List e2_In := [(215, 2, e2x_215), (216, 1, e2x_216), (217, 1, e2x_217), (225, 5, e2x_225), (226, 3, e2x_226), (227, 2, e2x_227), (228, 3, e2x_228)]
set_option maxRecDepth 1000000 in
theorem co_b38 : e2_okSB E_b38.length as_b38 f_b38 rs_b38 = true := by decide +kernel
def al_b38_0 : List ev_V := [(2, 83, 0), (0, 5, 0), (11, 2147483648, 2147483656), (11, 0, 4294967295), (11, 2147483693, 2147483701), (1, 4, 4294967296), (9, 0, 0), (9, 0, 0)]
def E_b38_0 : e2_E := [(2147483648, 2147583648, 0, 0), (2147483648, 2147483656, 1, 0), (2147483648, 2147483688, 2, 0), (2147483648, 2147483688, 3, 0), (2147483648, 2147483656, 4, 0)]
noncomputable def h_b38_0 : ev_H := (bn453 : e2_Q8)
noncomputable def cl_b38_e : List (Nat × e2_S) := [(28, e2_cutL (al_b38_0.set 5 (11, 2147483648, 2147483656)) 4 (E_b38_0.take 4) h_b38_0)]
set_option maxRecDepth 1000000 in
theorem ck_b38_e : e2_run (e2_cal S_b38 I_b38 4000 2) (e2_fin rs_b38) e2x_229 (e2_bpL cl_b38_e) (e2_cutA cl_b38_e) 4000 (e2_seek e2x_229 0) (e2_al 8 as_b38) [] E_b38 f_b38 = true := by decide +kernel
noncomputable def cl_b38_0 : List (Nat × e2_S) := [(28, e2_cutL (al_b38_0.set 5 (13, 12, 2147483656)) 4 (E_b38_0.take 4) h_b38_0)]
set_option maxRecDepth 1000000 in
theorem ck_b38_0 : e2_runM (e2_cal S_b38 I_b38 4000 2) (e2_fin rs_b38) e2x_229 (e2_bpL cl_b38_0) (e2_cutA cl_b38_0) 4000 (e2_seek e2x_229 28) al_b38_0 [] E_b38_0 h_b38_0 = true := by decide +kernel
set_option maxRecDepth 1000000 in
theorem ci_b38_0 : e2_idl 4 (al_b38_0.set 5 (9, 0, 0)) = true := by decide +kernel
set_option maxRecDepth 1000000 in
theorem cj_b38_0 : e2_idh 4 8 h_b38_0 = true := by decide +kernel
theorem cs_b38 (hen : en_ok) (l : Launch) : e2_smOk l 3 s_b38 := by
  refine e2_conG (H := 0) (n := 2) (C := evd_229) (S := S_b38) (I := I_b38) (fuel := 4000) hen ei_229 e2_fz (e2_fa ein_215 (e2_fa ein_216 (e2_fa ein_217 (e2_fa ein_225 (e2_fa ein_226 (e2_fa ein_227 (e2_fa ein_228 e2_fz))))))) (by decide) co_b38 fun M d _ hC hcall p e R s m args below meth c Q D cA A ads r0 ha hl0 => ?_
  have L_0 : e2_gdM M p l e R s m args below meth c Q D cA A ads r0 28 al_b38_0 [] E_b38_0 h_b38_0 := by
    refine e2_indL (u := 4) (j := 5) (lo := 2147483648) (hi := 2147483656) (b := 4) (dd := 0) hl0 (by decide) rfl rfl (Or.inr ⟨rfl, rfl⟩) rfl ci_b38_0 cj_b38_0 ?_
    intro r_0 k_0 hk_0 hp_0 hs_0 hn_0
    have hl_0 : r_0.length ≤ 5 := hs_0.len rfl
    have ha_0 := ha.ext hp_0
    exact e2_fromM hen ha_0 hcall (e2_cutA_ok (e2_fa (fun al st E h hc => hn_0 al st E h hc) e2_fz)) (hC [28]) (X := e2x_229) ex2_229 28 ck_b38_0
  have EN_0 := e2_entL (u := 4) (j := 5) (lo := 2147483648) (hi := 2147483656) hl0 rfl rfl rfl ci_b38_0 cj_b38_0 L_0
  exact e2_from hen ha hcall (e2_cutA_ok (e2_fa (fun al st E h hc => EN_0 al st E h hc) e2_fz)) (hC [28]) (X := e2x_229) ex2_229 0 ck_b38_e
/-! b39 X10_layFrom -/
def as_b39 : List ev_V := [(2, 83, 0), (0, 4, 0), (11, 2147483648, 2147483656), (11, 0, 4294967295)]
def E_b39 : e2_E := [(2147483648, 2147583648, 0, 0), (2147483648, 2147483656, 1, 0), (2147483648, 2147483688, 2, 0), (2147483648, 2147483688, 3, 0)]
noncomputable def f_b39 : ev_H := (bn453 : e2_Q8)
noncomputable def q_b39_0 : ev_H := (bn453 : e2_Q8)
noncomputable def rs_b39 : e2_Rs := [((9, 0, 0), q_b39_0)]
noncomputable def s_b39 : e2_Sm := (229, as_b39, E_b39, f_b39, rs_b39)
noncomputable def S_b39 : List e2_Sm := []
noncomputable def I_b39 : List e2_In := [(215, 2, e2x_215), (216, 1, e2x_216), (217, 1, e2x_217), (225, 5, e2x_225), (226, 3, e2x_226), (227, 2, e2x_227), (228, 3, e2x_228)]
set_option maxRecDepth 1000000 in
theorem co_b39 : e2_okSB E_b39.length as_b39 f_b39 rs_b39 = true := by decide +kernel
def al_b39_0 : List ev_V := [(2, 83, 0), (0, 4, 0), (11, 2147483648, 2147483656), (11, 0, 4294967295), (11, 2147483684, 2147483692), (1, 4, 4294967296), (9, 0, 0), (9, 0, 0)]
def E_b39_0 : e2_E := [(2147483648, 2147583648, 0, 0), (2147483648, 2147483656, 1, 0), (2147483648, 2147483688, 2, 0), (2147483648, 2147483688, 3, 0), (2147483648, 2147483656, 4, 0)]
noncomputable def h_b39_0 : ev_H := (bn453 : e2_Q8)
noncomputable def cl_b39_e : List (Nat × e2_S) := [(28, e2_cutL (al_b39_0.set 5 (11, 2147483648, 2147483656)) 4 (E_b39_0.take 4) h_b39_0)]
set_option maxRecDepth 1000000 in
theorem ck_b39_e : e2_run (e2_cal S_b39 I_b39 4000 2) (e2_fin rs_b39) e2x_229 (e2_bpL cl_b39_e) (e2_cutA cl_b39_e) 4000 (e2_seek e2x_229 0) (e2_al 8 as_b39) [] E_b39 f_b39 = true := by decide +kernel
noncomputable def cl_b39_0 : List (Nat × e2_S) := [(28, e2_cutL (al_b39_0.set 5 (13, 12, 2147483656)) 4 (E_b39_0.take 4) h_b39_0)]
set_option maxRecDepth 1000000 in
theorem ck_b39_0 : e2_runM (e2_cal S_b39 I_b39 4000 2) (e2_fin rs_b39) e2x_229 (e2_bpL cl_b39_0) (e2_cutA cl_b39_0) 4000 (e2_seek e2x_229 28) al_b39_0 [] E_b39_0 h_b39_0 = true := by decide +kernel
set_option maxRecDepth 1000000 in
theorem ci_b39_0 : e2_idl 4 (al_b39_0.set 5 (9, 0, 0)) = true := by decide +kernel
set_option maxRecDepth 1000000 in
theorem cj_b39_0 : e2_idh 4 8 h_b39_0 = true := by decide +kernel
theorem cs_b39 (hen : en_ok) (l : Launch) : e2_smOk l 3 s_b39 := by
  refine e2_conG (H := 0) (n := 2) (C := evd_229) (S := S_b39) (I := I_b39) (fuel := 4000) hen ei_229 e2_fz (e2_fa ein_215 (e2_fa ein_216 (e2_fa ein_217 (e2_fa ein_225 (e2_fa ein_226 (e2_fa ein_227 (e2_fa ein_228 e2_fz))))))) (by decide) co_b39 fun M d _ hC hcall p e R s m args below meth c Q D cA A ads r0 ha hl0 => ?_
  have L_0 : e2_gdM M p l e R s m args below meth c Q D cA A ads r0 28 al_b39_0 [] E_b39_0 h_b39_0 := by
    refine e2_indL (u := 4) (j := 5) (lo := 2147483648) (hi := 2147483656) (b := 4) (dd := 0) hl0 (by decide) rfl rfl (Or.inr ⟨rfl, rfl⟩) rfl ci_b39_0 cj_b39_0 ?_
    intro r_0 k_0 hk_0 hp_0 hs_0 hn_0
    have hl_0 : r_0.length ≤ 5 := hs_0.len rfl
    have ha_0 := ha.ext hp_0
    exact e2_fromM hen ha_0 hcall (e2_cutA_ok (e2_fa (fun al st E h hc => hn_0 al st E h hc) e2_fz)) (hC [28]) (X := e2x_229) ex2_229 28 ck_b39_0
  have EN_0 := e2_entL (u := 4) (j := 5) (lo := 2147483648) (hi := 2147483656) hl0 rfl rfl rfl ci_b39_0 cj_b39_0 L_0
  exact e2_from hen ha hcall (e2_cutA_ok (e2_fa (fun al st E h hc => EN_0 al st E h hc) e2_fz)) (hC [28]) (X := e2x_229) ex2_229 0 ck_b39_e
/-! b40 X10_layFrom -/
def as_b40 : List ev_V := [(2, 83, 0), (0, 3, 0), (11, 2147483648, 2147483656), (11, 0, 4294967295)]
def E_b40 : e2_E := [(2147483648, 2147583648, 0, 0), (2147483648, 2147483656, 1, 0), (2147483648, 2147483688, 2, 0), (2147483648, 2147483688, 3, 0)]
noncomputable def f_b40 : ev_H := (bn453 : e2_Q8)
noncomputable def q_b40_0 : ev_H := (bn453 : e2_Q8)
noncomputable def rs_b40 : e2_Rs := [((9, 0, 0), q_b40_0)]
noncomputable def s_b40 : e2_Sm := (229, as_b40, E_b40, f_b40, rs_b40)
noncomputable def S_b40 : List e2_Sm := []
noncomputable def I_b40 : List e2_In := [(215, 2, e2x_215), (216, 1, e2x_216), (217, 1, e2x_217), (225, 5, e2x_225), (226, 3, e2x_226), (227, 2, e2x_227), (228, 3, e2x_228)]
set_option maxRecDepth 1000000 in
theorem co_b40 : e2_okSB E_b40.length as_b40 f_b40 rs_b40 = true := by decide +kernel
def al_b40_0 : List ev_V := [(2, 83, 0), (0, 3, 0), (11, 2147483648, 2147483656), (11, 0, 4294967295), (11, 2147483675, 2147483683), (1, 4, 4294967296), (9, 0, 0), (9, 0, 0)]
def E_b40_0 : e2_E := [(2147483648, 2147583648, 0, 0), (2147483648, 2147483656, 1, 0), (2147483648, 2147483688, 2, 0), (2147483648, 2147483688, 3, 0), (2147483648, 2147483656, 4, 0)]
noncomputable def h_b40_0 : ev_H := (bn453 : e2_Q8)
noncomputable def cl_b40_e : List (Nat × e2_S) := [(28, e2_cutL (al_b40_0.set 5 (11, 2147483648, 2147483656)) 4 (E_b40_0.take 4) h_b40_0)]
set_option maxRecDepth 1000000 in
theorem ck_b40_e : e2_run (e2_cal S_b40 I_b40 4000 2) (e2_fin rs_b40) e2x_229 (e2_bpL cl_b40_e) (e2_cutA cl_b40_e) 4000 (e2_seek e2x_229 0) (e2_al 8 as_b40) [] E_b40 f_b40 = true := by decide +kernel
noncomputable def cl_b40_0 : List (Nat × e2_S) := [(28, e2_cutL (al_b40_0.set 5 (13, 12, 2147483656)) 4 (E_b40_0.take 4) h_b40_0)]
set_option maxRecDepth 1000000 in
theorem ck_b40_0 : e2_runM (e2_cal S_b40 I_b40 4000 2) (e2_fin rs_b40) e2x_229 (e2_bpL cl_b40_0) (e2_cutA cl_b40_0) 4000 (e2_seek e2x_229 28) al_b40_0 [] E_b40_0 h_b40_0 = true := by decide +kernel
set_option maxRecDepth 1000000 in
theorem ci_b40_0 : e2_idl 4 (al_b40_0.set 5 (9, 0, 0)) = true := by decide +kernel
set_option maxRecDepth 1000000 in
theorem cj_b40_0 : e2_idh 4 8 h_b40_0 = true := by decide +kernel
theorem cs_b40 (hen : en_ok) (l : Launch) : e2_smOk l 3 s_b40 := by
  refine e2_conG (H := 0) (n := 2) (C := evd_229) (S := S_b40) (I := I_b40) (fuel := 4000) hen ei_229 e2_fz (e2_fa ein_215 (e2_fa ein_216 (e2_fa ein_217 (e2_fa ein_225 (e2_fa ein_226 (e2_fa ein_227 (e2_fa ein_228 e2_fz))))))) (by decide) co_b40 fun M d _ hC hcall p e R s m args below meth c Q D cA A ads r0 ha hl0 => ?_
  have L_0 : e2_gdM M p l e R s m args below meth c Q D cA A ads r0 28 al_b40_0 [] E_b40_0 h_b40_0 := by
    refine e2_indL (u := 4) (j := 5) (lo := 2147483648) (hi := 2147483656) (b := 4) (dd := 0) hl0 (by decide) rfl rfl (Or.inr ⟨rfl, rfl⟩) rfl ci_b40_0 cj_b40_0 ?_
    intro r_0 k_0 hk_0 hp_0 hs_0 hn_0
    have hl_0 : r_0.length ≤ 5 := hs_0.len rfl
    have ha_0 := ha.ext hp_0
    exact e2_fromM hen ha_0 hcall (e2_cutA_ok (e2_fa (fun al st E h hc => hn_0 al st E h hc) e2_fz)) (hC [28]) (X := e2x_229) ex2_229 28 ck_b40_0
  have EN_0 := e2_entL (u := 4) (j := 5) (lo := 2147483648) (hi := 2147483656) hl0 rfl rfl rfl ci_b40_0 cj_b40_0 L_0
  exact e2_from hen ha hcall (e2_cutA_ok (e2_fa (fun al st E h hc => EN_0 al st E h hc) e2_fz)) (hC [28]) (X := e2x_229) ex2_229 0 ck_b40_e
/-! b41 X10_layFrom -/
def as_b41 : List ev_V := [(2, 83, 0), (0, 2, 0), (11, 2147483648, 2147483656), (11, 0, 4294967295)]
def E_b41 : e2_E := [(2147483648, 2147583648, 0, 0), (2147483648, 2147483656, 1, 0), (2147483648, 2147483688, 2, 0), (2147483648, 2147483688, 3, 0)]
noncomputable def f_b41 : ev_H := (bn453 : e2_Q8)
noncomputable def q_b41_0 : ev_H := (bn453 : e2_Q8)
noncomputable def rs_b41 : e2_Rs := [((9, 0, 0), q_b41_0)]
noncomputable def s_b41 : e2_Sm := (229, as_b41, E_b41, f_b41, rs_b41)
noncomputable def S_b41 : List e2_Sm := []
noncomputable def I_b41 : List e2_In := [(215, 2, e2x_215), (216, 1, e2x_216), (217, 1, e2x_217), (225, 5, e2x_225), (226, 3, e2x_226), (227, 2, e2x_227), (228, 3, e2x_228)]
set_option maxRecDepth 1000000 in
theorem co_b41 : e2_okSB E_b41.length as_b41 f_b41 rs_b41 = true := by decide +kernel
def al_b41_0 : List ev_V := [(2, 83, 0), (0, 2, 0), (11, 2147483648, 2147483656), (11, 0, 4294967295), (11, 2147483666, 2147483674), (1, 4, 4294967296), (9, 0, 0), (9, 0, 0)]
def E_b41_0 : e2_E := [(2147483648, 2147583648, 0, 0), (2147483648, 2147483656, 1, 0), (2147483648, 2147483688, 2, 0), (2147483648, 2147483688, 3, 0), (2147483648, 2147483656, 4, 0)]
noncomputable def h_b41_0 : ev_H := (bn453 : e2_Q8)
noncomputable def cl_b41_e : List (Nat × e2_S) := [(28, e2_cutL (al_b41_0.set 5 (11, 2147483648, 2147483656)) 4 (E_b41_0.take 4) h_b41_0)]
set_option maxRecDepth 1000000 in
theorem ck_b41_e : e2_run (e2_cal S_b41 I_b41 4000 2) (e2_fin rs_b41) e2x_229 (e2_bpL cl_b41_e) (e2_cutA cl_b41_e) 4000 (e2_seek e2x_229 0) (e2_al 8 as_b41) [] E_b41 f_b41 = true := by decide +kernel
noncomputable def cl_b41_0 : List (Nat × e2_S) := [(28, e2_cutL (al_b41_0.set 5 (13, 12, 2147483656)) 4 (E_b41_0.take 4) h_b41_0)]
set_option maxRecDepth 1000000 in
theorem ck_b41_0 : e2_runM (e2_cal S_b41 I_b41 4000 2) (e2_fin rs_b41) e2x_229 (e2_bpL cl_b41_0) (e2_cutA cl_b41_0) 4000 (e2_seek e2x_229 28) al_b41_0 [] E_b41_0 h_b41_0 = true := by decide +kernel
set_option maxRecDepth 1000000 in
theorem ci_b41_0 : e2_idl 4 (al_b41_0.set 5 (9, 0, 0)) = true := by decide +kernel
set_option maxRecDepth 1000000 in
theorem cj_b41_0 : e2_idh 4 8 h_b41_0 = true := by decide +kernel
theorem cs_b41 (hen : en_ok) (l : Launch) : e2_smOk l 3 s_b41 := by
  refine e2_conG (H := 0) (n := 2) (C := evd_229) (S := S_b41) (I := I_b41) (fuel := 4000) hen ei_229 e2_fz (e2_fa ein_215 (e2_fa ein_216 (e2_fa ein_217 (e2_fa ein_225 (e2_fa ein_226 (e2_fa ein_227 (e2_fa ein_228 e2_fz))))))) (by decide) co_b41 fun M d _ hC hcall p e R s m args below meth c Q D cA A ads r0 ha hl0 => ?_
  have L_0 : e2_gdM M p l e R s m args below meth c Q D cA A ads r0 28 al_b41_0 [] E_b41_0 h_b41_0 := by
    refine e2_indL (u := 4) (j := 5) (lo := 2147483648) (hi := 2147483656) (b := 4) (dd := 0) hl0 (by decide) rfl rfl (Or.inr ⟨rfl, rfl⟩) rfl ci_b41_0 cj_b41_0 ?_
    intro r_0 k_0 hk_0 hp_0 hs_0 hn_0
    have hl_0 : r_0.length ≤ 5 := hs_0.len rfl
    have ha_0 := ha.ext hp_0
    exact e2_fromM hen ha_0 hcall (e2_cutA_ok (e2_fa (fun al st E h hc => hn_0 al st E h hc) e2_fz)) (hC [28]) (X := e2x_229) ex2_229 28 ck_b41_0
  have EN_0 := e2_entL (u := 4) (j := 5) (lo := 2147483648) (hi := 2147483656) hl0 rfl rfl rfl ci_b41_0 cj_b41_0 L_0
  exact e2_from hen ha hcall (e2_cutA_ok (e2_fa (fun al st E h hc => EN_0 al st E h hc) e2_fz)) (hC [28]) (X := e2x_229) ex2_229 0 ck_b41_e
/-! b42 X10_layFrom -/
def as_b42 : List ev_V := [(2, 83, 0), (0, 1, 0), (11, 2147483648, 2147483656), (11, 0, 4294967295)]
def E_b42 : e2_E := [(2147483648, 2147583648, 0, 0), (2147483648, 2147483656, 1, 0), (2147483648, 2147483688, 2, 0), (2147483648, 2147483688, 3, 0)]
noncomputable def f_b42 : ev_H := (bn453 : e2_Q8)
noncomputable def q_b42_0 : ev_H := (bn453 : e2_Q8)
noncomputable def rs_b42 : e2_Rs := [((9, 0, 0), q_b42_0)]
noncomputable def s_b42 : e2_Sm := (229, as_b42, E_b42, f_b42, rs_b42)
noncomputable def S_b42 : List e2_Sm := []
noncomputable def I_b42 : List e2_In := [(215, 2, e2x_215), (216, 1, e2x_216), (217, 1, e2x_217), (225, 5, e2x_225), (226, 3, e2x_226), (227, 2, e2x_227), (228, 3, e2x_228)]
set_option maxRecDepth 1000000 in
theorem co_b42 : e2_okSB E_b42.length as_b42 f_b42 rs_b42 = true := by decide +kernel
def al_b42_0 : List ev_V := [(2, 83, 0), (0, 1, 0), (11, 2147483648, 2147483656), (11, 0, 4294967295), (11, 2147483657, 2147483665), (1, 4, 4294967296), (9, 0, 0), (9, 0, 0)]
def E_b42_0 : e2_E := [(2147483648, 2147583648, 0, 0), (2147483648, 2147483656, 1, 0), (2147483648, 2147483688, 2, 0), (2147483648, 2147483688, 3, 0), (2147483648, 2147483656, 4, 0)]
noncomputable def h_b42_0 : ev_H := (bn453 : e2_Q8)
noncomputable def cl_b42_e : List (Nat × e2_S) := [(28, e2_cutL (al_b42_0.set 5 (11, 2147483648, 2147483656)) 4 (E_b42_0.take 4) h_b42_0)]
set_option maxRecDepth 1000000 in
theorem ck_b42_e : e2_run (e2_cal S_b42 I_b42 4000 2) (e2_fin rs_b42) e2x_229 (e2_bpL cl_b42_e) (e2_cutA cl_b42_e) 4000 (e2_seek e2x_229 0) (e2_al 8 as_b42) [] E_b42 f_b42 = true := by decide +kernel
noncomputable def cl_b42_0 : List (Nat × e2_S) := [(28, e2_cutL (al_b42_0.set 5 (13, 12, 2147483656)) 4 (E_b42_0.take 4) h_b42_0)]
set_option maxRecDepth 1000000 in
theorem ck_b42_0 : e2_runM (e2_cal S_b42 I_b42 4000 2) (e2_fin rs_b42) e2x_229 (e2_bpL cl_b42_0) (e2_cutA cl_b42_0) 4000 (e2_seek e2x_229 28) al_b42_0 [] E_b42_0 h_b42_0 = true := by decide +kernel
set_option maxRecDepth 1000000 in
theorem ci_b42_0 : e2_idl 4 (al_b42_0.set 5 (9, 0, 0)) = true := by decide +kernel
set_option maxRecDepth 1000000 in
theorem cj_b42_0 : e2_idh 4 8 h_b42_0 = true := by decide +kernel
theorem cs_b42 (hen : en_ok) (l : Launch) : e2_smOk l 3 s_b42 := by
  refine e2_conG (H := 0) (n := 2) (C := evd_229) (S := S_b42) (I := I_b42) (fuel := 4000) hen ei_229 e2_fz (e2_fa ein_215 (e2_fa ein_216 (e2_fa ein_217 (e2_fa ein_225 (e2_fa ein_226 (e2_fa ein_227 (e2_fa ein_228 e2_fz))))))) (by decide) co_b42 fun M d _ hC hcall p e R s m args below meth c Q D cA A ads r0 ha hl0 => ?_
  have L_0 : e2_gdM M p l e R s m args below meth c Q D cA A ads r0 28 al_b42_0 [] E_b42_0 h_b42_0 := by
    refine e2_indL (u := 4) (j := 5) (lo := 2147483648) (hi := 2147483656) (b := 4) (dd := 0) hl0 (by decide) rfl rfl (Or.inr ⟨rfl, rfl⟩) rfl ci_b42_0 cj_b42_0 ?_
    intro r_0 k_0 hk_0 hp_0 hs_0 hn_0
    have hl_0 : r_0.length ≤ 5 := hs_0.len rfl
    have ha_0 := ha.ext hp_0
    exact e2_fromM hen ha_0 hcall (e2_cutA_ok (e2_fa (fun al st E h hc => hn_0 al st E h hc) e2_fz)) (hC [28]) (X := e2x_229) ex2_229 28 ck_b42_0
  have EN_0 := e2_entL (u := 4) (j := 5) (lo := 2147483648) (hi := 2147483656) hl0 rfl rfl rfl ci_b42_0 cj_b42_0 L_0
  exact e2_from hen ha hcall (e2_cutA_ok (e2_fa (fun al st E h hc => EN_0 al st E h hc) e2_fz)) (hC [28]) (X := e2x_229) ex2_229 0 ck_b42_e
/-! b43 X10_layFrom -/
def as_b43 : List ev_V := [(2, 83, 0), (0, 0, 0), (11, 2147483648, 2147483656), (11, 0, 4294967295)]
def E_b43 : e2_E := [(2147483648, 2147583648, 0, 0), (2147483648, 2147483656, 1, 0), (2147483648, 2147483688, 2, 0), (2147483648, 2147483688, 3, 0)]
noncomputable def f_b43 : ev_H := (bn453 : e2_Q8)
noncomputable def q_b43_0 : ev_H := (bn453 : e2_Q8)
noncomputable def rs_b43 : e2_Rs := [((9, 0, 0), q_b43_0)]
noncomputable def s_b43 : e2_Sm := (229, as_b43, E_b43, f_b43, rs_b43)
noncomputable def S_b43 : List e2_Sm := []
noncomputable def I_b43 : List e2_In := [(215, 2, e2x_215), (216, 1, e2x_216), (217, 1, e2x_217), (225, 5, e2x_225), (226, 3, e2x_226), (227, 2, e2x_227), (228, 3, e2x_228)]
set_option maxRecDepth 1000000 in
theorem co_b43 : e2_okSB E_b43.length as_b43 f_b43 rs_b43 = true := by decide +kernel
def al_b43_0 : List ev_V := [(2, 83, 0), (0, 0, 0), (11, 2147483648, 2147483656), (11, 0, 4294967295), (11, 2147483648, 2147483656), (1, 4, 4294967296), (9, 0, 0), (9, 0, 0)]
def E_b43_0 : e2_E := [(2147483648, 2147583648, 0, 0), (2147483648, 2147483656, 1, 0), (2147483648, 2147483688, 2, 0), (2147483648, 2147483688, 3, 0), (2147483648, 2147483656, 4, 0)]
noncomputable def h_b43_0 : ev_H := (bn453 : e2_Q8)
noncomputable def cl_b43_e : List (Nat × e2_S) := [(28, e2_cutL (al_b43_0.set 5 (11, 2147483648, 2147483656)) 4 (E_b43_0.take 4) h_b43_0)]
set_option maxRecDepth 1000000 in
theorem ck_b43_e : e2_run (e2_cal S_b43 I_b43 4000 2) (e2_fin rs_b43) e2x_229 (e2_bpL cl_b43_e) (e2_cutA cl_b43_e) 4000 (e2_seek e2x_229 0) (e2_al 8 as_b43) [] E_b43 f_b43 = true := by decide +kernel
noncomputable def cl_b43_0 : List (Nat × e2_S) := [(28, e2_cutL (al_b43_0.set 5 (13, 12, 2147483656)) 4 (E_b43_0.take 4) h_b43_0)]
set_option maxRecDepth 1000000 in
theorem ck_b43_0 : e2_runM (e2_cal S_b43 I_b43 4000 2) (e2_fin rs_b43) e2x_229 (e2_bpL cl_b43_0) (e2_cutA cl_b43_0) 4000 (e2_seek e2x_229 28) al_b43_0 [] E_b43_0 h_b43_0 = true := by decide +kernel
set_option maxRecDepth 1000000 in
theorem ci_b43_0 : e2_idl 4 (al_b43_0.set 5 (9, 0, 0)) = true := by decide +kernel
set_option maxRecDepth 1000000 in
theorem cj_b43_0 : e2_idh 4 8 h_b43_0 = true := by decide +kernel
theorem cs_b43 (hen : en_ok) (l : Launch) : e2_smOk l 3 s_b43 := by
  refine e2_conG (H := 0) (n := 2) (C := evd_229) (S := S_b43) (I := I_b43) (fuel := 4000) hen ei_229 e2_fz (e2_fa ein_215 (e2_fa ein_216 (e2_fa ein_217 (e2_fa ein_225 (e2_fa ein_226 (e2_fa ein_227 (e2_fa ein_228 e2_fz))))))) (by decide) co_b43 fun M d _ hC hcall p e R s m args below meth c Q D cA A ads r0 ha hl0 => ?_
  have L_0 : e2_gdM M p l e R s m args below meth c Q D cA A ads r0 28 al_b43_0 [] E_b43_0 h_b43_0 := by
    refine e2_indL (u := 4) (j := 5) (lo := 2147483648) (hi := 2147483656) (b := 4) (dd := 0) hl0 (by decide) rfl rfl (Or.inr ⟨rfl, rfl⟩) rfl ci_b43_0 cj_b43_0 ?_
    intro r_0 k_0 hk_0 hp_0 hs_0 hn_0
    have hl_0 : r_0.length ≤ 5 := hs_0.len rfl
    have ha_0 := ha.ext hp_0
    exact e2_fromM hen ha_0 hcall (e2_cutA_ok (e2_fa (fun al st E h hc => hn_0 al st E h hc) e2_fz)) (hC [28]) (X := e2x_229) ex2_229 28 ck_b43_0
  have EN_0 := e2_entL (u := 4) (j := 5) (lo := 2147483648) (hi := 2147483656) hl0 rfl rfl rfl ci_b43_0 cj_b43_0 L_0
  exact e2_from hen ha hcall (e2_cutA_ok (e2_fa (fun al st E h hc => EN_0 al st E h hc) e2_fz)) (hC [28]) (X := e2x_229) ex2_229 0 ck_b43_e
