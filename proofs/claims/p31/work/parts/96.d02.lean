/-! CONTRACTS d, printed by a program -/
/-! d26 X10_layFrom -/
def as_d26 : List ev_V := [(2, 83, 0), (0, 17, 0), (11, 2147483648, 2147483656), (11, 0, 4294967295)]
def E_d26 : e2_E := [(2147483648, 2147583648, 0, 0), (2147483648, 2147483656, 1, 0), (2147483648, 2147483688, 2, 0), (2147483648, 2147483688, 3, 0)]
noncomputable def f_d26 : ev_H := (dn453 : e2_Q8)
noncomputable def q_d26_0 : ev_H := (dn453 : e2_Q8)
noncomputable def rs_d26 : e2_Rs := [((9, 0, 0), q_d26_0)]
noncomputable def s_d26 : e2_Sm := (229, as_d26, E_d26, f_d26, rs_d26)
noncomputable def S_d26 : List e2_Sm := []
noncomputable def I_d26 : List e2_In := [(215, 2, e2x_215), (216, 1, e2x_216), (217, 1, e2x_217), (225, 5, e2x_225), (226, 3, e2x_226), (227, 2, e2x_227), (228, 3, e2x_228)]
set_option maxRecDepth 1000000 in
theorem co_d26 : e2_okSB E_d26.length as_d26 f_d26 rs_d26 = true := by decide +kernel
def al_d26_0 : List ev_V := [(2, 83, 0), (0, 17, 0), (11, 2147483648, 2147483656), (11, 0, 4294967295), (11, 2147483801, 2147483809), (1, 4, 4294967296), (9, 0, 0), (9, 0, 0)]
def E_d26_0 : e2_E := [(2147483648, 2147583648, 0, 0), (2147483648, 2147483656, 1, 0), (2147483648, 2147483688, 2, 0), (2147483648, 2147483688, 3, 0), (2147483648, 2147483656, 4, 0)]
noncomputable def h_d26_0 : ev_H := (dn453 : e2_Q8)
noncomputable def cl_d26_e : List (Nat × e2_S) := [(28, e2_cutL (al_d26_0.set 5 (11, 2147483648, 2147483656)) 4 (E_d26_0.take 4) h_d26_0)]
set_option maxRecDepth 1000000 in
theorem ck_d26_e : e2_run (e2_cal S_d26 I_d26 4000 2) (e2_fin rs_d26) e2x_229 (e2_bpL cl_d26_e) (e2_cutA cl_d26_e) 4000 (e2_seek e2x_229 0) (e2_al 8 as_d26) [] E_d26 f_d26 = true := by decide +kernel
noncomputable def cl_d26_0 : List (Nat × e2_S) := [(28, e2_cutL (al_d26_0.set 5 (13, 12, 2147483656)) 4 (E_d26_0.take 4) h_d26_0)]
set_option maxRecDepth 1000000 in
theorem ck_d26_0 : e2_runM (e2_cal S_d26 I_d26 4000 2) (e2_fin rs_d26) e2x_229 (e2_bpL cl_d26_0) (e2_cutA cl_d26_0) 4000 (e2_seek e2x_229 28) al_d26_0 [] E_d26_0 h_d26_0 = true := by decide +kernel
set_option maxRecDepth 1000000 in
theorem ci_d26_0 : e2_idl 4 (al_d26_0.set 5 (9, 0, 0)) = true := by decide +kernel
set_option maxRecDepth 1000000 in
theorem cj_d26_0 : e2_idh 4 8 h_d26_0 = true := by decide +kernel
theorem cs_d26 (hen : en_ok) (l : Launch) : e2_smOk l 3 s_d26 := by
  refine e2_conG (H := 0) (n := 2) (C := evd_229) (S := S_d26) (I := I_d26) (fuel := 4000) hen ei_229 e2_fz (e2_fa ein_215 (e2_fa ein_216 (e2_fa ein_217 (e2_fa ein_225 (e2_fa ein_226 (e2_fa ein_227 (e2_fa ein_228 e2_fz))))))) (by decide) co_d26 fun M d _ hC hcall p e R s m args below meth c Q D cA A ads r0 ha hl0 => ?_
  have L_0 : e2_gdM M p l e R s m args below meth c Q D cA A ads r0 28 al_d26_0 [] E_d26_0 h_d26_0 := by
    refine e2_indL (u := 4) (j := 5) (lo := 2147483648) (hi := 2147483656) (b := 4) (dd := 0) hl0 (by decide) rfl rfl (Or.inr ⟨rfl, rfl⟩) rfl ci_d26_0 cj_d26_0 ?_
    intro r_0 k_0 hk_0 hp_0 hs_0 hn_0
    have hl_0 : r_0.length ≤ 5 := hs_0.len rfl
    have ha_0 := ha.ext hp_0
    exact e2_fromM hen ha_0 hcall (e2_cutA_ok (e2_fa (fun al st E h hc => hn_0 al st E h hc) e2_fz)) (hC [28]) (X := e2x_229) ex2_229 28 ck_d26_0
  have EN_0 := e2_entL (u := 4) (j := 5) (lo := 2147483648) (hi := 2147483656) hl0 rfl rfl rfl ci_d26_0 cj_d26_0 L_0
  exact e2_from hen ha hcall (e2_cutA_ok (e2_fa (fun al st E h hc => EN_0 al st E h hc) e2_fz)) (hC [28]) (X := e2x_229) ex2_229 0 ck_d26_e
/-! d27 X10_layFrom -/
def as_d27 : List ev_V := [(2, 83, 0), (0, 16, 0), (11, 2147483648, 2147483656), (11, 0, 4294967295)]
def E_d27 : e2_E := [(2147483648, 2147583648, 0, 0), (2147483648, 2147483656, 1, 0), (2147483648, 2147483688, 2, 0), (2147483648, 2147483688, 3, 0)]
noncomputable def f_d27 : ev_H := (dn453 : e2_Q8)
noncomputable def q_d27_0 : ev_H := (dn453 : e2_Q8)
noncomputable def rs_d27 : e2_Rs := [((9, 0, 0), q_d27_0)]
noncomputable def s_d27 : e2_Sm := (229, as_d27, E_d27, f_d27, rs_d27)
noncomputable def S_d27 : List e2_Sm := []
noncomputable def I_d27 : List e2_In := [(215, 2, e2x_215), (216, 1, e2x_216), (217, 1, e2x_217), (225, 5, e2x_225), (226, 3, e2x_226), (227, 2, e2x_227), (228, 3, e2x_228)]
set_option maxRecDepth 1000000 in
theorem co_d27 : e2_okSB E_d27.length as_d27 f_d27 rs_d27 = true := by decide +kernel
def al_d27_0 : List ev_V := [(2, 83, 0), (0, 16, 0), (11, 2147483648, 2147483656), (11, 0, 4294967295), (11, 2147483792, 2147483800), (1, 4, 4294967296), (9, 0, 0), (9, 0, 0)]
def E_d27_0 : e2_E := [(2147483648, 2147583648, 0, 0), (2147483648, 2147483656, 1, 0), (2147483648, 2147483688, 2, 0), (2147483648, 2147483688, 3, 0), (2147483648, 2147483656, 4, 0)]
noncomputable def h_d27_0 : ev_H := (dn453 : e2_Q8)
noncomputable def cl_d27_e : List (Nat × e2_S) := [(28, e2_cutL (al_d27_0.set 5 (11, 2147483648, 2147483656)) 4 (E_d27_0.take 4) h_d27_0)]
set_option maxRecDepth 1000000 in
theorem ck_d27_e : e2_run (e2_cal S_d27 I_d27 4000 2) (e2_fin rs_d27) e2x_229 (e2_bpL cl_d27_e) (e2_cutA cl_d27_e) 4000 (e2_seek e2x_229 0) (e2_al 8 as_d27) [] E_d27 f_d27 = true := by decide +kernel
noncomputable def cl_d27_0 : List (Nat × e2_S) := [(28, e2_cutL (al_d27_0.set 5 (13, 12, 2147483656)) 4 (E_d27_0.take 4) h_d27_0)]
set_option maxRecDepth 1000000 in
theorem ck_d27_0 : e2_runM (e2_cal S_d27 I_d27 4000 2) (e2_fin rs_d27) e2x_229 (e2_bpL cl_d27_0) (e2_cutA cl_d27_0) 4000 (e2_seek e2x_229 28) al_d27_0 [] E_d27_0 h_d27_0 = true := by decide +kernel
set_option maxRecDepth 1000000 in
theorem ci_d27_0 : e2_idl 4 (al_d27_0.set 5 (9, 0, 0)) = true := by decide +kernel
set_option maxRecDepth 1000000 in
theorem cj_d27_0 : e2_idh 4 8 h_d27_0 = true := by decide +kernel
theorem cs_d27 (hen : en_ok) (l : Launch) : e2_smOk l 3 s_d27 := by
  refine e2_conG (H := 0) (n := 2) (C := evd_229) (S := S_d27) (I := I_d27) (fuel := 4000) hen ei_229 e2_fz (e2_fa ein_215 (e2_fa ein_216 (e2_fa ein_217 (e2_fa ein_225 (e2_fa ein_226 (e2_fa ein_227 (e2_fa ein_228 e2_fz))))))) (by decide) co_d27 fun M d _ hC hcall p e R s m args below meth c Q D cA A ads r0 ha hl0 => ?_
  have L_0 : e2_gdM M p l e R s m args below meth c Q D cA A ads r0 28 al_d27_0 [] E_d27_0 h_d27_0 := by
    refine e2_indL (u := 4) (j := 5) (lo := 2147483648) (hi := 2147483656) (b := 4) (dd := 0) hl0 (by decide) rfl rfl (Or.inr ⟨rfl, rfl⟩) rfl ci_d27_0 cj_d27_0 ?_
    intro r_0 k_0 hk_0 hp_0 hs_0 hn_0
    have hl_0 : r_0.length ≤ 5 := hs_0.len rfl
    have ha_0 := ha.ext hp_0
    exact e2_fromM hen ha_0 hcall (e2_cutA_ok (e2_fa (fun al st E h hc => hn_0 al st E h hc) e2_fz)) (hC [28]) (X := e2x_229) ex2_229 28 ck_d27_0
  have EN_0 := e2_entL (u := 4) (j := 5) (lo := 2147483648) (hi := 2147483656) hl0 rfl rfl rfl ci_d27_0 cj_d27_0 L_0
  exact e2_from hen ha hcall (e2_cutA_ok (e2_fa (fun al st E h hc => EN_0 al st E h hc) e2_fz)) (hC [28]) (X := e2x_229) ex2_229 0 ck_d27_e
/-! d28 X10_layFrom -/
def as_d28 : List ev_V := [(2, 83, 0), (0, 15, 0), (11, 2147483648, 2147483656), (11, 0, 4294967295)]
def E_d28 : e2_E := [(2147483648, 2147583648, 0, 0), (2147483648, 2147483656, 1, 0), (2147483648, 2147483688, 2, 0), (2147483648, 2147483688, 3, 0)]
noncomputable def f_d28 : ev_H := (dn453 : e2_Q8)
noncomputable def q_d28_0 : ev_H := (dn453 : e2_Q8)
noncomputable def rs_d28 : e2_Rs := [((9, 0, 0), q_d28_0)]
noncomputable def s_d28 : e2_Sm := (229, as_d28, E_d28, f_d28, rs_d28)
noncomputable def S_d28 : List e2_Sm := []
noncomputable def I_d28 : List e2_In := [(215, 2, e2x_215), (216, 1, e2x_216), (217, 1, e2x_217), (225, 5, e2x_225), (226, 3, e2x_226), (227, 2, e2x_227), (228, 3, e2x_228)]
set_option maxRecDepth 1000000 in
theorem co_d28 : e2_okSB E_d28.length as_d28 f_d28 rs_d28 = true := by decide +kernel
def al_d28_0 : List ev_V := [(2, 83, 0), (0, 15, 0), (11, 2147483648, 2147483656), (11, 0, 4294967295), (11, 2147483783, 2147483791), (1, 4, 4294967296), (9, 0, 0), (9, 0, 0)]
def E_d28_0 : e2_E := [(2147483648, 2147583648, 0, 0), (2147483648, 2147483656, 1, 0), (2147483648, 2147483688, 2, 0), (2147483648, 2147483688, 3, 0), (2147483648, 2147483656, 4, 0)]
noncomputable def h_d28_0 : ev_H := (dn453 : e2_Q8)
noncomputable def cl_d28_e : List (Nat × e2_S) := [(28, e2_cutL (al_d28_0.set 5 (11, 2147483648, 2147483656)) 4 (E_d28_0.take 4) h_d28_0)]
set_option maxRecDepth 1000000 in
theorem ck_d28_e : e2_run (e2_cal S_d28 I_d28 4000 2) (e2_fin rs_d28) e2x_229 (e2_bpL cl_d28_e) (e2_cutA cl_d28_e) 4000 (e2_seek e2x_229 0) (e2_al 8 as_d28) [] E_d28 f_d28 = true := by decide +kernel
noncomputable def cl_d28_0 : List (Nat × e2_S) := [(28, e2_cutL (al_d28_0.set 5 (13, 12, 2147483656)) 4 (E_d28_0.take 4) h_d28_0)]
set_option maxRecDepth 1000000 in
theorem ck_d28_0 : e2_runM (e2_cal S_d28 I_d28 4000 2) (e2_fin rs_d28) e2x_229 (e2_bpL cl_d28_0) (e2_cutA cl_d28_0) 4000 (e2_seek e2x_229 28) al_d28_0 [] E_d28_0 h_d28_0 = true := by decide +kernel
set_option maxRecDepth 1000000 in
theorem ci_d28_0 : e2_idl 4 (al_d28_0.set 5 (9, 0, 0)) = true := by decide +kernel
set_option maxRecDepth 1000000 in
theorem cj_d28_0 : e2_idh 4 8 h_d28_0 = true := by decide +kernel
theorem cs_d28 (hen : en_ok) (l : Launch) : e2_smOk l 3 s_d28 := by
  refine e2_conG (H := 0) (n := 2) (C := evd_229) (S := S_d28) (I := I_d28) (fuel := 4000) hen ei_229 e2_fz (e2_fa ein_215 (e2_fa ein_216 (e2_fa ein_217 (e2_fa ein_225 (e2_fa ein_226 (e2_fa ein_227 (e2_fa ein_228 e2_fz))))))) (by decide) co_d28 fun M d _ hC hcall p e R s m args below meth c Q D cA A ads r0 ha hl0 => ?_
  have L_0 : e2_gdM M p l e R s m args below meth c Q D cA A ads r0 28 al_d28_0 [] E_d28_0 h_d28_0 := by
    refine e2_indL (u := 4) (j := 5) (lo := 2147483648) (hi := 2147483656) (b := 4) (dd := 0) hl0 (by decide) rfl rfl (Or.inr ⟨rfl, rfl⟩) rfl ci_d28_0 cj_d28_0 ?_
    intro r_0 k_0 hk_0 hp_0 hs_0 hn_0
    have hl_0 : r_0.length ≤ 5 := hs_0.len rfl
    have ha_0 := ha.ext hp_0
    exact e2_fromM hen ha_0 hcall (e2_cutA_ok (e2_fa (fun al st E h hc => hn_0 al st E h hc) e2_fz)) (hC [28]) (X := e2x_229) ex2_229 28 ck_d28_0
  have EN_0 := e2_entL (u := 4) (j := 5) (lo := 2147483648) (hi := 2147483656) hl0 rfl rfl rfl ci_d28_0 cj_d28_0 L_0
  exact e2_from hen ha hcall (e2_cutA_ok (e2_fa (fun al st E h hc => EN_0 al st E h hc) e2_fz)) (hC [28]) (X := e2x_229) ex2_229 0 ck_d28_e
/-! d29 X10_layFrom -/
def as_d29 : List ev_V := [(2, 83, 0), (0, 14, 0), (11, 2147483648, 2147483656), (11, 0, 4294967295)]
def E_d29 : e2_E := [(2147483648, 2147583648, 0, 0), (2147483648, 2147483656, 1, 0), (2147483648, 2147483688, 2, 0), (2147483648, 2147483688, 3, 0)]
noncomputable def f_d29 : ev_H := (dn453 : e2_Q8)
noncomputable def q_d29_0 : ev_H := (dn453 : e2_Q8)
noncomputable def rs_d29 : e2_Rs := [((9, 0, 0), q_d29_0)]
noncomputable def s_d29 : e2_Sm := (229, as_d29, E_d29, f_d29, rs_d29)
noncomputable def S_d29 : List e2_Sm := []
noncomputable def I_d29 : List e2_In := [(215, 2, e2x_215), (216, 1, e2x_216), (217, 1, e2x_217), (225, 5, e2x_225), (226, 3, e2x_226), (227, 2, e2x_227), (228, 3, e2x_228)]
set_option maxRecDepth 1000000 in
theorem co_d29 : e2_okSB E_d29.length as_d29 f_d29 rs_d29 = true := by decide +kernel
def al_d29_0 : List ev_V := [(2, 83, 0), (0, 14, 0), (11, 2147483648, 2147483656), (11, 0, 4294967295), (11, 2147483774, 2147483782), (1, 4, 4294967296), (9, 0, 0), (9, 0, 0)]
def E_d29_0 : e2_E := [(2147483648, 2147583648, 0, 0), (2147483648, 2147483656, 1, 0), (2147483648, 2147483688, 2, 0), (2147483648, 2147483688, 3, 0), (2147483648, 2147483656, 4, 0)]
noncomputable def h_d29_0 : ev_H := (dn453 : e2_Q8)
noncomputable def cl_d29_e : List (Nat × e2_S) := [(28, e2_cutL (al_d29_0.set 5 (11, 2147483648, 2147483656)) 4 (E_d29_0.take 4) h_d29_0)]
set_option maxRecDepth 1000000 in
theorem ck_d29_e : e2_run (e2_cal S_d29 I_d29 4000 2) (e2_fin rs_d29) e2x_229 (e2_bpL cl_d29_e) (e2_cutA cl_d29_e) 4000 (e2_seek e2x_229 0) (e2_al 8 as_d29) [] E_d29 f_d29 = true := by decide +kernel
noncomputable def cl_d29_0 : List (Nat × e2_S) := [(28, e2_cutL (al_d29_0.set 5 (13, 12, 2147483656)) 4 (E_d29_0.take 4) h_d29_0)]
set_option maxRecDepth 1000000 in
theorem ck_d29_0 : e2_runM (e2_cal S_d29 I_d29 4000 2) (e2_fin rs_d29) e2x_229 (e2_bpL cl_d29_0) (e2_cutA cl_d29_0) 4000 (e2_seek e2x_229 28) al_d29_0 [] E_d29_0 h_d29_0 = true := by decide +kernel
set_option maxRecDepth 1000000 in
theorem ci_d29_0 : e2_idl 4 (al_d29_0.set 5 (9, 0, 0)) = true := by decide +kernel
set_option maxRecDepth 1000000 in
theorem cj_d29_0 : e2_idh 4 8 h_d29_0 = true := by decide +kernel
theorem cs_d29 (hen : en_ok) (l : Launch) : e2_smOk l 3 s_d29 := by
  refine e2_conG (H := 0) (n := 2) (C := evd_229) (S := S_d29) (I := I_d29) (fuel := 4000) hen ei_229 e2_fz (e2_fa ein_215 (e2_fa ein_216 (e2_fa ein_217 (e2_fa ein_225 (e2_fa ein_226 (e2_fa ein_227 (e2_fa ein_228 e2_fz))))))) (by decide) co_d29 fun M d _ hC hcall p e R s m args below meth c Q D cA A ads r0 ha hl0 => ?_
  have L_0 : e2_gdM M p l e R s m args below meth c Q D cA A ads r0 28 al_d29_0 [] E_d29_0 h_d29_0 := by
    refine e2_indL (u := 4) (j := 5) (lo := 2147483648) (hi := 2147483656) (b := 4) (dd := 0) hl0 (by decide) rfl rfl (Or.inr ⟨rfl, rfl⟩) rfl ci_d29_0 cj_d29_0 ?_
    intro r_0 k_0 hk_0 hp_0 hs_0 hn_0
    have hl_0 : r_0.length ≤ 5 := hs_0.len rfl
    have ha_0 := ha.ext hp_0
    exact e2_fromM hen ha_0 hcall (e2_cutA_ok (e2_fa (fun al st E h hc => hn_0 al st E h hc) e2_fz)) (hC [28]) (X := e2x_229) ex2_229 28 ck_d29_0
  have EN_0 := e2_entL (u := 4) (j := 5) (lo := 2147483648) (hi := 2147483656) hl0 rfl rfl rfl ci_d29_0 cj_d29_0 L_0
  exact e2_from hen ha hcall (e2_cutA_ok (e2_fa (fun al st E h hc => EN_0 al st E h hc) e2_fz)) (hC [28]) (X := e2x_229) ex2_229 0 ck_d29_e
/-! d30 X10_layFrom -/
def as_d30 : List ev_V := [(2, 83, 0), (0, 13, 0), (11, 2147483648, 2147483656), (11, 0, 4294967295)]
def E_d30 : e2_E := [(2147483648, 2147583648, 0, 0), (2147483648, 2147483656, 1, 0), (2147483648, 2147483688, 2, 0), (2147483648, 2147483688, 3, 0)]
noncomputable def f_d30 : ev_H := (dn453 : e2_Q8)
noncomputable def q_d30_0 : ev_H := (dn453 : e2_Q8)
noncomputable def rs_d30 : e2_Rs := [((9, 0, 0), q_d30_0)]
noncomputable def s_d30 : e2_Sm := (229, as_d30, E_d30, f_d30, rs_d30)
noncomputable def S_d30 : List e2_Sm := []
noncomputable def I_d30 : List e2_In := [(215, 2, e2x_215), (216, 1, e2x_216), (217, 1, e2x_217), (225, 5, e2x_225), (226, 3, e2x_226), (227, 2, e2x_227), (228, 3, e2x_228)]
set_option maxRecDepth 1000000 in
theorem co_d30 : e2_okSB E_d30.length as_d30 f_d30 rs_d30 = true := by decide +kernel
def al_d30_0 : List ev_V := [(2, 83, 0), (0, 13, 0), (11, 2147483648, 2147483656), (11, 0, 4294967295), (11, 2147483765, 2147483773), (1, 4, 4294967296), (9, 0, 0), (9, 0, 0)]
def E_d30_0 : e2_E := [(2147483648, 2147583648, 0, 0), (2147483648, 2147483656, 1, 0), (2147483648, 2147483688, 2, 0), (2147483648, 2147483688, 3, 0), (2147483648, 2147483656, 4, 0)]
noncomputable def h_d30_0 : ev_H := (dn453 : e2_Q8)
noncomputable def cl_d30_e : List (Nat × e2_S) := [(28, e2_cutL (al_d30_0.set 5 (11, 2147483648, 2147483656)) 4 (E_d30_0.take 4) h_d30_0)]
set_option maxRecDepth 1000000 in
theorem ck_d30_e : e2_run (e2_cal S_d30 I_d30 4000 2) (e2_fin rs_d30) e2x_229 (e2_bpL cl_d30_e) (e2_cutA cl_d30_e) 4000 (e2_seek e2x_229 0) (e2_al 8 as_d30) [] E_d30 f_d30 = true := by decide +kernel
noncomputable def cl_d30_0 : List (Nat × e2_S) := [(28, e2_cutL (al_d30_0.set 5 (13, 12, 2147483656)) 4 (E_d30_0.take 4) h_d30_0)]
set_option maxRecDepth 1000000 in
theorem ck_d30_0 : e2_runM (e2_cal S_d30 I_d30 4000 2) (e2_fin rs_d30) e2x_229 (e2_bpL cl_d30_0) (e2_cutA cl_d30_0) 4000 (e2_seek e2x_229 28) al_d30_0 [] E_d30_0 h_d30_0 = true := by decide +kernel
set_option maxRecDepth 1000000 in
theorem ci_d30_0 : e2_idl 4 (al_d30_0.set 5 (9, 0, 0)) = true := by decide +kernel
set_option maxRecDepth 1000000 in
theorem cj_d30_0 : e2_idh 4 8 h_d30_0 = true := by decide +kernel
theorem cs_d30 (hen : en_ok) (l : Launch) : e2_smOk l 3 s_d30 := by
  refine e2_conG (H := 0) (n := 2) (C := evd_229) (S := S_d30) (I := I_d30) (fuel := 4000) hen ei_229 e2_fz (e2_fa ein_215 (e2_fa ein_216 (e2_fa ein_217 (e2_fa ein_225 (e2_fa ein_226 (e2_fa ein_227 (e2_fa ein_228 e2_fz))))))) (by decide) co_d30 fun M d _ hC hcall p e R s m args below meth c Q D cA A ads r0 ha hl0 => ?_
  have L_0 : e2_gdM M p l e R s m args below meth c Q D cA A ads r0 28 al_d30_0 [] E_d30_0 h_d30_0 := by
    refine e2_indL (u := 4) (j := 5) (lo := 2147483648) (hi := 2147483656) (b := 4) (dd := 0) hl0 (by decide) rfl rfl (Or.inr ⟨rfl, rfl⟩) rfl ci_d30_0 cj_d30_0 ?_
    intro r_0 k_0 hk_0 hp_0 hs_0 hn_0
    have hl_0 : r_0.length ≤ 5 := hs_0.len rfl
    have ha_0 := ha.ext hp_0
    exact e2_fromM hen ha_0 hcall (e2_cutA_ok (e2_fa (fun al st E h hc => hn_0 al st E h hc) e2_fz)) (hC [28]) (X := e2x_229) ex2_229 28 ck_d30_0
  have EN_0 := e2_entL (u := 4) (j := 5) (lo := 2147483648) (hi := 2147483656) hl0 rfl rfl rfl ci_d30_0 cj_d30_0 L_0
  exact e2_from hen ha hcall (e2_cutA_ok (e2_fa (fun al st E h hc => EN_0 al st E h hc) e2_fz)) (hC [28]) (X := e2x_229) ex2_229 0 ck_d30_e
/-! d31 X10_layFrom -/
def as_d31 : List ev_V := [(2, 83, 0), (0, 12, 0), (11, 2147483648, 2147483656), (11, 0, 4294967295)]
def E_d31 : e2_E := [(2147483648, 2147583648, 0, 0), (2147483648, 2147483656, 1, 0), (2147483648, 2147483688, 2, 0), (2147483648, 2147483688, 3, 0)]
noncomputable def f_d31 : ev_H := (dn453 : e2_Q8)
noncomputable def q_d31_0 : ev_H := (dn453 : e2_Q8)
noncomputable def rs_d31 : e2_Rs := [((9, 0, 0), q_d31_0)]
noncomputable def s_d31 : e2_Sm := (229, as_d31, E_d31, f_d31, rs_d31)
noncomputable def S_d31 : List e2_Sm := []
noncomputable def I_d31 : List e2_In := [(215, 2, e2x_215), (216, 1, e2x_216), (217, 1, e2x_217), (225, 5, e2x_225), (226, 3, e2x_226), (227, 2, e2x_227), (228, 3, e2x_228)]
set_option maxRecDepth 1000000 in
theorem co_d31 : e2_okSB E_d31.length as_d31 f_d31 rs_d31 = true := by decide +kernel
def al_d31_0 : List ev_V := [(2, 83, 0), (0, 12, 0), (11, 2147483648, 2147483656), (11, 0, 4294967295), (11, 2147483756, 2147483764), (1, 4, 4294967296), (9, 0, 0), (9, 0, 0)]
def E_d31_0 : e2_E := [(2147483648, 2147583648, 0, 0), (2147483648, 2147483656, 1, 0), (2147483648, 2147483688, 2, 0), (2147483648, 2147483688, 3, 0), (2147483648, 2147483656, 4, 0)]
noncomputable def h_d31_0 : ev_H := (dn453 : e2_Q8)
noncomputable def cl_d31_e : List (Nat × e2_S) := [(28, e2_cutL (al_d31_0.set 5 (11, 2147483648, 2147483656)) 4 (E_d31_0.take 4) h_d31_0)]
set_option maxRecDepth 1000000 in
theorem ck_d31_e : e2_run (e2_cal S_d31 I_d31 4000 2) (e2_fin rs_d31) e2x_229 (e2_bpL cl_d31_e) (e2_cutA cl_d31_e) 4000 (e2_seek e2x_229 0) (e2_al 8 as_d31) [] E_d31 f_d31 = true := by decide +kernel
noncomputable def cl_d31_0 : List (Nat × e2_S) := [(28, e2_cutL (al_d31_0.set 5 (13, 12, 2147483656)) 4 (E_d31_0.take 4) h_d31_0)]
set_option maxRecDepth 1000000 in
theorem ck_d31_0 : e2_runM (e2_cal S_d31 I_d31 4000 2) (e2_fin rs_d31) e2x_229 (e2_bpL cl_d31_0) (e2_cutA cl_d31_0) 4000 (e2_seek e2x_229 28) al_d31_0 [] E_d31_0 h_d31_0 = true := by decide +kernel
set_option maxRecDepth 1000000 in
theorem ci_d31_0 : e2_idl 4 (al_d31_0.set 5 (9, 0, 0)) = true := by decide +kernel
set_option maxRecDepth 1000000 in
theorem cj_d31_0 : e2_idh 4 8 h_d31_0 = true := by decide +kernel
theorem cs_d31 (hen : en_ok) (l : Launch) : e2_smOk l 3 s_d31 := by
  refine e2_conG (H := 0) (n := 2) (C := evd_229) (S := S_d31) (I := I_d31) (fuel := 4000) hen ei_229 e2_fz (e2_fa ein_215 (e2_fa ein_216 (e2_fa ein_217 (e2_fa ein_225 (e2_fa ein_226 (e2_fa ein_227 (e2_fa ein_228 e2_fz))))))) (by decide) co_d31 fun M d _ hC hcall p e R s m args below meth c Q D cA A ads r0 ha hl0 => ?_
  have L_0 : e2_gdM M p l e R s m args below meth c Q D cA A ads r0 28 al_d31_0 [] E_d31_0 h_d31_0 := by
    refine e2_indL (u := 4) (j := 5) (lo := 2147483648) (hi := 2147483656) (b := 4) (dd := 0) hl0 (by decide) rfl rfl (Or.inr ⟨rfl, rfl⟩) rfl ci_d31_0 cj_d31_0 ?_
    intro r_0 k_0 hk_0 hp_0 hs_0 hn_0
    have hl_0 : r_0.length ≤ 5 := hs_0.len rfl
    have ha_0 := ha.ext hp_0
    exact e2_fromM hen ha_0 hcall (e2_cutA_ok (e2_fa (fun al st E h hc => hn_0 al st E h hc) e2_fz)) (hC [28]) (X := e2x_229) ex2_229 28 ck_d31_0
  have EN_0 := e2_entL (u := 4) (j := 5) (lo := 2147483648) (hi := 2147483656) hl0 rfl rfl rfl ci_d31_0 cj_d31_0 L_0
  exact e2_from hen ha hcall (e2_cutA_ok (e2_fa (fun al st E h hc => EN_0 al st E h hc) e2_fz)) (hC [28]) (X := e2x_229) ex2_229 0 ck_d31_e
/-! d32 X10_layFrom -/
def as_d32 : List ev_V := [(2, 83, 0), (0, 11, 0), (11, 2147483648, 2147483656), (11, 0, 4294967295)]
def E_d32 : e2_E := [(2147483648, 2147583648, 0, 0), (2147483648, 2147483656, 1, 0), (2147483648, 2147483688, 2, 0), (2147483648, 2147483688, 3, 0)]
noncomputable def f_d32 : ev_H := (dn453 : e2_Q8)
noncomputable def q_d32_0 : ev_H := (dn453 : e2_Q8)
noncomputable def rs_d32 : e2_Rs := [((9, 0, 0), q_d32_0)]
noncomputable def s_d32 : e2_Sm := (229, as_d32, E_d32, f_d32, rs_d32)
noncomputable def S_d32 : List e2_Sm := []
noncomputable def I_d32 : List e2_In := [(215, 2, e2x_215), (216, 1, e2x_216), (217, 1, e2x_217), (225, 5, e2x_225), (226, 3, e2x_226), (227, 2, e2x_227), (228, 3, e2x_228)]
set_option maxRecDepth 1000000 in
theorem co_d32 : e2_okSB E_d32.length as_d32 f_d32 rs_d32 = true := by decide +kernel
def al_d32_0 : List ev_V := [(2, 83, 0), (0, 11, 0), (11, 2147483648, 2147483656), (11, 0, 4294967295), (11, 2147483747, 2147483755), (1, 4, 4294967296), (9, 0, 0), (9, 0, 0)]
def E_d32_0 : e2_E := [(2147483648, 2147583648, 0, 0), (2147483648, 2147483656, 1, 0), (2147483648, 2147483688, 2, 0), (2147483648, 2147483688, 3, 0), (2147483648, 2147483656, 4, 0)]
noncomputable def h_d32_0 : ev_H := (dn453 : e2_Q8)
noncomputable def cl_d32_e : List (Nat × e2_S) := [(28, e2_cutL (al_d32_0.set 5 (11, 2147483648, 2147483656)) 4 (E_d32_0.take 4) h_d32_0)]
set_option maxRecDepth 1000000 in
theorem ck_d32_e : e2_run (e2_cal S_d32 I_d32 4000 2) (e2_fin rs_d32) e2x_229 (e2_bpL cl_d32_e) (e2_cutA cl_d32_e) 4000 (e2_seek e2x_229 0) (e2_al 8 as_d32) [] E_d32 f_d32 = true := by decide +kernel
noncomputable def cl_d32_0 : List (Nat × e2_S) := [(28, e2_cutL (al_d32_0.set 5 (13, 12, 2147483656)) 4 (E_d32_0.take 4) h_d32_0)]
set_option maxRecDepth 1000000 in
theorem ck_d32_0 : e2_runM (e2_cal S_d32 I_d32 4000 2) (e2_fin rs_d32) e2x_229 (e2_bpL cl_d32_0) (e2_cutA cl_d32_0) 4000 (e2_seek e2x_229 28) al_d32_0 [] E_d32_0 h_d32_0 = true := by decide +kernel
set_option maxRecDepth 1000000 in
theorem ci_d32_0 : e2_idl 4 (al_d32_0.set 5 (9, 0, 0)) = true := by decide +kernel
set_option maxRecDepth 1000000 in
theorem cj_d32_0 : e2_idh 4 8 h_d32_0 = true := by decide +kernel
theorem cs_d32 (hen : en_ok) (l : Launch) : e2_smOk l 3 s_d32 := by
  refine e2_conG (H := 0) (n := 2) (C := evd_229) (S := S_d32) (I := I_d32) (fuel := 4000) hen ei_229 e2_fz (e2_fa ein_215 (e2_fa ein_216 (e2_fa ein_217 (e2_fa ein_225 (e2_fa ein_226 (e2_fa ein_227 (e2_fa ein_228 e2_fz))))))) (by decide) co_d32 fun M d _ hC hcall p e R s m args below meth c Q D cA A ads r0 ha hl0 => ?_
  have L_0 : e2_gdM M p l e R s m args below meth c Q D cA A ads r0 28 al_d32_0 [] E_d32_0 h_d32_0 := by
    refine e2_indL (u := 4) (j := 5) (lo := 2147483648) (hi := 2147483656) (b := 4) (dd := 0) hl0 (by decide) rfl rfl (Or.inr ⟨rfl, rfl⟩) rfl ci_d32_0 cj_d32_0 ?_
    intro r_0 k_0 hk_0 hp_0 hs_0 hn_0
    have hl_0 : r_0.length ≤ 5 := hs_0.len rfl
    have ha_0 := ha.ext hp_0
    exact e2_fromM hen ha_0 hcall (e2_cutA_ok (e2_fa (fun al st E h hc => hn_0 al st E h hc) e2_fz)) (hC [28]) (X := e2x_229) ex2_229 28 ck_d32_0
  have EN_0 := e2_entL (u := 4) (j := 5) (lo := 2147483648) (hi := 2147483656) hl0 rfl rfl rfl ci_d32_0 cj_d32_0 L_0
  exact e2_from hen ha hcall (e2_cutA_ok (e2_fa (fun al st E h hc => EN_0 al st E h hc) e2_fz)) (hC [28]) (X := e2x_229) ex2_229 0 ck_d32_e
/-! d33 X10_layFrom -/
def as_d33 : List ev_V := [(2, 83, 0), (0, 10, 0), (11, 2147483648, 2147483656), (11, 0, 4294967295)]
def E_d33 : e2_E := [(2147483648, 2147583648, 0, 0), (2147483648, 2147483656, 1, 0), (2147483648, 2147483688, 2, 0), (2147483648, 2147483688, 3, 0)]
noncomputable def f_d33 : ev_H := (dn453 : e2_Q8)
noncomputable def q_d33_0 : ev_H := (dn453 : e2_Q8)
noncomputable def rs_d33 : e2_Rs := [((9, 0, 0), q_d33_0)]
noncomputable def s_d33 : e2_Sm := (229, as_d33, E_d33, f_d33, rs_d33)
noncomputable def S_d33 : List e2_Sm := []
noncomputable def I_d33 : List e2_In := [(215, 2, e2x_215), (216, 1, e2x_216), (217, 1, e2x_217), (225, 5, e2x_225), (226, 3, e2x_226), (227, 2, e2x_227), (228, 3, e2x_228)]
set_option maxRecDepth 1000000 in
theorem co_d33 : e2_okSB E_d33.length as_d33 f_d33 rs_d33 = true := by decide +kernel
def al_d33_0 : List ev_V := [(2, 83, 0), (0, 10, 0), (11, 2147483648, 2147483656), (11, 0, 4294967295), (11, 2147483738, 2147483746), (1, 4, 4294967296), (9, 0, 0), (9, 0, 0)]
def E_d33_0 : e2_E := [(2147483648, 2147583648, 0, 0), (2147483648, 2147483656, 1, 0), (2147483648, 2147483688, 2, 0), (2147483648, 2147483688, 3, 0), (2147483648, 2147483656, 4, 0)]
noncomputable def h_d33_0 : ev_H := (dn453 : e2_Q8)
noncomputable def cl_d33_e : List (Nat × e2_S) := [(28, e2_cutL (al_d33_0.set 5 (11, 2147483648, 2147483656)) 4 (E_d33_0.take 4) h_d33_0)]
set_option maxRecDepth 1000000 in
theorem ck_d33_e : e2_run (e2_cal S_d33 I_d33 4000 2) (e2_fin rs_d33) e2x_229 (e2_bpL cl_d33_e) (e2_cutA cl_d33_e) 4000 (e2_seek e2x_229 0) (e2_al 8 as_d33) [] E_d33 f_d33 = true := by decide +kernel
noncomputable def cl_d33_0 : List (Nat × e2_S) := [(28, e2_cutL (al_d33_0.set 5 (13, 12, 2147483656)) 4 (E_d33_0.take 4) h_d33_0)]
set_option maxRecDepth 1000000 in
theorem ck_d33_0 : e2_runM (e2_cal S_d33 I_d33 4000 2) (e2_fin rs_d33) e2x_229 (e2_bpL cl_d33_0) (e2_cutA cl_d33_0) 4000 (e2_seek e2x_229 28) al_d33_0 [] E_d33_0 h_d33_0 = true := by decide +kernel
set_option maxRecDepth 1000000 in
theorem ci_d33_0 : e2_idl 4 (al_d33_0.set 5 (9, 0, 0)) = true := by decide +kernel
set_option maxRecDepth 1000000 in
theorem cj_d33_0 : e2_idh 4 8 h_d33_0 = true := by decide +kernel
theorem cs_d33 (hen : en_ok) (l : Launch) : e2_smOk l 3 s_d33 := by
  refine e2_conG (H := 0) (n := 2) (C := evd_229) (S := S_d33) (I := I_d33) (fuel := 4000) hen ei_229 e2_fz (e2_fa ein_215 (e2_fa ein_216 (e2_fa ein_217 (e2_fa ein_225 (e2_fa ein_226 (e2_fa ein_227 (e2_fa ein_228 e2_fz))))))) (by decide) co_d33 fun M d _ hC hcall p e R s m args below meth c Q D cA A ads r0 ha hl0 => ?_
  have L_0 : e2_gdM M p l e R s m args below meth c Q D cA A ads r0 28 al_d33_0 [] E_d33_0 h_d33_0 := by
    refine e2_indL (u := 4) (j := 5) (lo := 2147483648) (hi := 2147483656) (b := 4) (dd := 0) hl0 (by decide) rfl rfl (Or.inr ⟨rfl, rfl⟩) rfl ci_d33_0 cj_d33_0 ?_
    intro r_0 k_0 hk_0 hp_0 hs_0 hn_0
    have hl_0 : r_0.length ≤ 5 := hs_0.len rfl
    have ha_0 := ha.ext hp_0
    exact e2_fromM hen ha_0 hcall (e2_cutA_ok (e2_fa (fun al st E h hc => hn_0 al st E h hc) e2_fz)) (hC [28]) (X := e2x_229) ex2_229 28 ck_d33_0
  have EN_0 := e2_entL (u := 4) (j := 5) (lo := 2147483648) (hi := 2147483656) hl0 rfl rfl rfl ci_d33_0 cj_d33_0 L_0
  exact e2_from hen ha hcall (e2_cutA_ok (e2_fa (fun al st E h hc => EN_0 al st E h hc) e2_fz)) (hC [28]) (X := e2x_229) ex2_229 0 ck_d33_e
/-! d34 X10_layFrom -/
def as_d34 : List ev_V := [(2, 83, 0), (0, 9, 0), (11, 2147483648, 2147483656), (11, 0, 4294967295)]
def E_d34 : e2_E := [(2147483648, 2147583648, 0, 0), (2147483648, 2147483656, 1, 0), (2147483648, 2147483688, 2, 0), (2147483648, 2147483688, 3, 0)]
noncomputable def f_d34 : ev_H := (dn453 : e2_Q8)
noncomputable def q_d34_0 : ev_H := (dn453 : e2_Q8)
noncomputable def rs_d34 : e2_Rs := [((9, 0, 0), q_d34_0)]
noncomputable def s_d34 : e2_Sm := (229, as_d34, E_d34, f_d34, rs_d34)
noncomputable def S_d34 : List e2_Sm := []
noncomputable def I_d34 : List e2_In := [(215, 2, e2x_215), (216, 1, e2x_216), (217, 1, e2x_217), (225, 5, e2x_225), (226, 3, e2x_226), (227, 2, e2x_227), (228, 3, e2x_228)]
set_option maxRecDepth 1000000 in
theorem co_d34 : e2_okSB E_d34.length as_d34 f_d34 rs_d34 = true := by decide +kernel
def al_d34_0 : List ev_V := [(2, 83, 0), (0, 9, 0), (11, 2147483648, 2147483656), (11, 0, 4294967295), (11, 2147483729, 2147483737), (1, 4, 4294967296), (9, 0, 0), (9, 0, 0)]
def E_d34_0 : e2_E := [(2147483648, 2147583648, 0, 0), (2147483648, 2147483656, 1, 0), (2147483648, 2147483688, 2, 0), (2147483648, 2147483688, 3, 0), (2147483648, 2147483656, 4, 0)]
noncomputable def h_d34_0 : ev_H := (dn453 : e2_Q8)
noncomputable def cl_d34_e : List (Nat × e2_S) := [(28, e2_cutL (al_d34_0.set 5 (11, 2147483648, 2147483656)) 4 (E_d34_0.take 4) h_d34_0)]
set_option maxRecDepth 1000000 in
theorem ck_d34_e : e2_run (e2_cal S_d34 I_d34 4000 2) (e2_fin rs_d34) e2x_229 (e2_bpL cl_d34_e) (e2_cutA cl_d34_e) 4000 (e2_seek e2x_229 0) (e2_al 8 as_d34) [] E_d34 f_d34 = true := by decide +kernel
noncomputable def cl_d34_0 : List (Nat × e2_S) := [(28, e2_cutL (al_d34_0.set 5 (13, 12, 2147483656)) 4 (E_d34_0.take 4) h_d34_0)]
set_option maxRecDepth 1000000 in
theorem ck_d34_0 : e2_runM (e2_cal S_d34 I_d34 4000 2) (e2_fin rs_d34) e2x_229 (e2_bpL cl_d34_0) (e2_cutA cl_d34_0) 4000 (e2_seek e2x_229 28) al_d34_0 [] E_d34_0 h_d34_0 = true := by decide +kernel
set_option maxRecDepth 1000000 in
theorem ci_d34_0 : e2_idl 4 (al_d34_0.set 5 (9, 0, 0)) = true := by decide +kernel
set_option maxRecDepth 1000000 in
theorem cj_d34_0 : e2_idh 4 8 h_d34_0 = true := by decide +kernel
theorem cs_d34 (hen : en_ok) (l : Launch) : e2_smOk l 3 s_d34 := by
  refine e2_conG (H := 0) (n := 2) (C := evd_229) (S := S_d34) (I := I_d34) (fuel := 4000) hen ei_229 e2_fz (e2_fa ein_215 (e2_fa ein_216 (e2_fa ein_217 (e2_fa ein_225 (e2_fa ein_226 (e2_fa ein_227 (e2_fa ein_228 e2_fz))))))) (by decide) co_d34 fun M d _ hC hcall p e R s m args below meth c Q D cA A ads r0 ha hl0 => ?_
  have L_0 : e2_gdM M p l e R s m args below meth c Q D cA A ads r0 28 al_d34_0 [] E_d34_0 h_d34_0 := by
    refine e2_indL (u := 4) (j := 5) (lo := 2147483648) (hi := 2147483656) (b := 4) (dd := 0) hl0 (by decide) rfl rfl (Or.inr ⟨rfl, rfl⟩) rfl ci_d34_0 cj_d34_0 ?_
    intro r_0 k_0 hk_0 hp_0 hs_0 hn_0
    have hl_0 : r_0.length ≤ 5 := hs_0.len rfl
    have ha_0 := ha.ext hp_0
    exact e2_fromM hen ha_0 hcall (e2_cutA_ok (e2_fa (fun al st E h hc => hn_0 al st E h hc) e2_fz)) (hC [28]) (X := e2x_229) ex2_229 28 ck_d34_0
  have EN_0 := e2_entL (u := 4) (j := 5) (lo := 2147483648) (hi := 2147483656) hl0 rfl rfl rfl ci_d34_0 cj_d34_0 L_0
  exact e2_from hen ha hcall (e2_cutA_ok (e2_fa (fun al st E h hc => EN_0 al st E h hc) e2_fz)) (hC [28]) (X := e2x_229) ex2_229 0 ck_d34_e
/-! d35 X10_layFrom -/
def as_d35 : List ev_V := [(2, 83, 0), (0, 8, 0), (11, 2147483648, 2147483656), (11, 0, 4294967295)]
def E_d35 : e2_E := [(2147483648, 2147583648, 0, 0), (2147483648, 2147483656, 1, 0), (2147483648, 2147483688, 2, 0), (2147483648, 2147483688, 3, 0)]
noncomputable def f_d35 : ev_H := (dn453 : e2_Q8)
noncomputable def q_d35_0 : ev_H := (dn453 : e2_Q8)
noncomputable def rs_d35 : e2_Rs := [((9, 0, 0), q_d35_0)]
noncomputable def s_d35 : e2_Sm := (229, as_d35, E_d35, f_d35, rs_d35)
noncomputable def S_d35 : List e2_Sm := []
noncomputable def I_d35 : List e2_In := [(215, 2, e2x_215), (216, 1, e2x_216), (217, 1, e2x_217), (225, 5, e2x_225), (226, 3, e2x_226), (227, 2, e2x_227), (228, 3, e2x_228)]
set_option maxRecDepth 1000000 in
theorem co_d35 : e2_okSB E_d35.length as_d35 f_d35 rs_d35 = true := by decide +kernel
def al_d35_0 : List ev_V := [(2, 83, 0), (0, 8, 0), (11, 2147483648, 2147483656), (11, 0, 4294967295), (11, 2147483720, 2147483728), (1, 4, 4294967296), (9, 0, 0), (9, 0, 0)]
def E_d35_0 : e2_E := [(2147483648, 2147583648, 0, 0), (2147483648, 2147483656, 1, 0), (2147483648, 2147483688, 2, 0), (2147483648, 2147483688, 3, 0), (2147483648, 2147483656, 4, 0)]
noncomputable def h_d35_0 : ev_H := (dn453 : e2_Q8)
noncomputable def cl_d35_e : List (Nat × e2_S) := [(28, e2_cutL (al_d35_0.set 5 (11, 2147483648, 2147483656)) 4 (E_d35_0.take 4) h_d35_0)]
set_option maxRecDepth 1000000 in
theorem ck_d35_e : e2_run (e2_cal S_d35 I_d35 4000 2) (e2_fin rs_d35) e2x_229 (e2_bpL cl_d35_e) (e2_cutA cl_d35_e) 4000 (e2_seek e2x_229 0) (e2_al 8 as_d35) [] E_d35 f_d35 = true := by decide +kernel
noncomputable def cl_d35_0 : List (Nat × e2_S) := [(28, e2_cutL (al_d35_0.set 5 (13, 12, 2147483656)) 4 (E_d35_0.take 4) h_d35_0)]
set_option maxRecDepth 1000000 in
theorem ck_d35_0 : e2_runM (e2_cal S_d35 I_d35 4000 2) (e2_fin rs_d35) e2x_229 (e2_bpL cl_d35_0) (e2_cutA cl_d35_0) 4000 (e2_seek e2x_229 28) al_d35_0 [] E_d35_0 h_d35_0 = true := by decide +kernel
set_option maxRecDepth 1000000 in
theorem ci_d35_0 : e2_idl 4 (al_d35_0.set 5 (9, 0, 0)) = true := by decide +kernel
set_option maxRecDepth 1000000 in
theorem cj_d35_0 : e2_idh 4 8 h_d35_0 = true := by decide +kernel
theorem cs_d35 (hen : en_ok) (l : Launch) : e2_smOk l 3 s_d35 := by
  refine e2_conG (H := 0) (n := 2) (C := evd_229) (S := S_d35) (I := I_d35) (fuel := 4000) hen ei_229 e2_fz (e2_fa ein_215 (e2_fa ein_216 (e2_fa ein_217 (e2_fa ein_225 (e2_fa ein_226 (e2_fa ein_227 (e2_fa ein_228 e2_fz))))))) (by decide) co_d35 fun M d _ hC hcall p e R s m args below meth c Q D cA A ads r0 ha hl0 => ?_
  have L_0 : e2_gdM M p l e R s m args below meth c Q D cA A ads r0 28 al_d35_0 [] E_d35_0 h_d35_0 := by
    refine e2_indL (u := 4) (j := 5) (lo := 2147483648) (hi := 2147483656) (b := 4) (dd := 0) hl0 (by decide) rfl rfl (Or.inr ⟨rfl, rfl⟩) rfl ci_d35_0 cj_d35_0 ?_
    intro r_0 k_0 hk_0 hp_0 hs_0 hn_0
    have hl_0 : r_0.length ≤ 5 := hs_0.len rfl
    have ha_0 := ha.ext hp_0
    exact e2_fromM hen ha_0 hcall (e2_cutA_ok (e2_fa (fun al st E h hc => hn_0 al st E h hc) e2_fz)) (hC [28]) (X := e2x_229) ex2_229 28 ck_d35_0
  have EN_0 := e2_entL (u := 4) (j := 5) (lo := 2147483648) (hi := 2147483656) hl0 rfl rfl rfl ci_d35_0 cj_d35_0 L_0
  exact e2_from hen ha hcall (e2_cutA_ok (e2_fa (fun al st E h hc => EN_0 al st E h hc) e2_fz)) (hC [28]) (X := e2x_229) ex2_229 0 ck_d35_e
/-! d36 X10_layFrom -/
def as_d36 : List ev_V := [(2, 83, 0), (0, 7, 0), (11, 2147483648, 2147483656), (11, 0, 4294967295)]
def E_d36 : e2_E := [(2147483648, 2147583648, 0, 0), (2147483648, 2147483656, 1, 0), (2147483648, 2147483688, 2, 0), (2147483648, 2147483688, 3, 0)]
noncomputable def f_d36 : ev_H := (dn453 : e2_Q8)
noncomputable def q_d36_0 : ev_H := (dn453 : e2_Q8)
noncomputable def rs_d36 : e2_Rs := [((9, 0, 0), q_d36_0)]
noncomputable def s_d36 : e2_Sm := (229, as_d36, E_d36, f_d36, rs_d36)
noncomputable def S_d36 : List e2_Sm := []
noncomputable def I_d36 : List e2_In := [(215, 2, e2x_215), (216, 1, e2x_216), (217, 1, e2x_217), (225, 5, e2x_225), (226, 3, e2x_226), (227, 2, e2x_227), (228, 3, e2x_228)]
set_option maxRecDepth 1000000 in
theorem co_d36 : e2_okSB E_d36.length as_d36 f_d36 rs_d36 = true := by decide +kernel
def al_d36_0 : List ev_V := [(2, 83, 0), (0, 7, 0), (11, 2147483648, 2147483656), (11, 0, 4294967295), (11, 2147483711, 2147483719), (1, 4, 4294967296), (9, 0, 0), (9, 0, 0)]
def E_d36_0 : e2_E := [(2147483648, 2147583648, 0, 0), (2147483648, 2147483656, 1, 0), (2147483648, 2147483688, 2, 0), (2147483648, 2147483688, 3, 0), (2147483648, 2147483656, 4, 0)]
noncomputable def h_d36_0 : ev_H := (dn453 : e2_Q8)
noncomputable def cl_d36_e : List (Nat × e2_S) := [(28, e2_cutL (al_d36_0.set 5 (11, 2147483648, 2147483656)) 4 (E_d36_0.take 4) h_d36_0)]
set_option maxRecDepth 1000000 in
theorem ck_d36_e : e2_run (e2_cal S_d36 I_d36 4000 2) (e2_fin rs_d36) e2x_229 (e2_bpL cl_d36_e) (e2_cutA cl_d36_e) 4000 (e2_seek e2x_229 0) (e2_al 8 as_d36) [] E_d36 f_d36 = true := by decide +kernel
noncomputable def cl_d36_0 : List (Nat × e2_S) := [(28, e2_cutL (al_d36_0.set 5 (13, 12, 2147483656)) 4 (E_d36_0.take 4) h_d36_0)]
set_option maxRecDepth 1000000 in
theorem ck_d36_0 : e2_runM (e2_cal S_d36 I_d36 4000 2) (e2_fin rs_d36) e2x_229 (e2_bpL cl_d36_0) (e2_cutA cl_d36_0) 4000 (e2_seek e2x_229 28) al_d36_0 [] E_d36_0 h_d36_0 = true := by decide +kernel
set_option maxRecDepth 1000000 in
theorem ci_d36_0 : e2_idl 4 (al_d36_0.set 5 (9, 0, 0)) = true := by decide +kernel
set_option maxRecDepth 1000000 in
theorem cj_d36_0 : e2_idh 4 8 h_d36_0 = true := by decide +kernel
theorem cs_d36 (hen : en_ok) (l : Launch) : e2_smOk l 3 s_d36 := by
  refine e2_conG (H := 0) (n := 2) (C := evd_229) (S := S_d36) (I := I_d36) (fuel := 4000) hen ei_229 e2_fz (e2_fa ein_215 (e2_fa ein_216 (e2_fa ein_217 (e2_fa ein_225 (e2_fa ein_226 (e2_fa ein_227 (e2_fa ein_228 e2_fz))))))) (by decide) co_d36 fun M d _ hC hcall p e R s m args below meth c Q D cA A ads r0 ha hl0 => ?_
  have L_0 : e2_gdM M p l e R s m args below meth c Q D cA A ads r0 28 al_d36_0 [] E_d36_0 h_d36_0 := by
    refine e2_indL (u := 4) (j := 5) (lo := 2147483648) (hi := 2147483656) (b := 4) (dd := 0) hl0 (by decide) rfl rfl (Or.inr ⟨rfl, rfl⟩) rfl ci_d36_0 cj_d36_0 ?_
    intro r_0 k_0 hk_0 hp_0 hs_0 hn_0
    have hl_0 : r_0.length ≤ 5 := hs_0.len rfl
    have ha_0 := ha.ext hp_0
    exact e2_fromM hen ha_0 hcall (e2_cutA_ok (e2_fa (fun al st E h hc => hn_0 al st E h hc) e2_fz)) (hC [28]) (X := e2x_229) ex2_229 28 ck_d36_0
  have EN_0 := e2_entL (u := 4) (j := 5) (lo := 2147483648) (hi := 2147483656) hl0 rfl rfl rfl ci_d36_0 cj_d36_0 L_0
  exact e2_from hen ha hcall (e2_cutA_ok (e2_fa (fun al st E h hc => EN_0 al st E h hc) e2_fz)) (hC [28]) (X := e2x_229) ex2_229 0 ck_d36_e
/-! d37 X10_layFrom -/
def as_d37 : List ev_V := [(2, 83, 0), (0, 6, 0), (11, 2147483648, 2147483656), (11, 0, 4294967295)]
def E_d37 : e2_E := [(2147483648, 2147583648, 0, 0), (2147483648, 2147483656, 1, 0), (2147483648, 2147483688, 2, 0), (2147483648, 2147483688, 3, 0)]
noncomputable def f_d37 : ev_H := (dn453 : e2_Q8)
noncomputable def q_d37_0 : ev_H := (dn453 : e2_Q8)
noncomputable def rs_d37 : e2_Rs := [((9, 0, 0), q_d37_0)]
noncomputable def s_d37 : e2_Sm := (229, as_d37, E_d37, f_d37, rs_d37)
noncomputable def S_d37 : List e2_Sm := []
noncomputable def I_d37 : List e2_In := [(215, 2, e2x_215), (216, 1, e2x_216), (217, 1, e2x_217), (225, 5, e2x_225), (226, 3, e2x_226), (227, 2, e2x_227), (228, 3, e2x_228)]
set_option maxRecDepth 1000000 in
theorem co_d37 : e2_okSB E_d37.length as_d37 f_d37 rs_d37 = true := by decide +kernel
def al_d37_0 : List ev_V := [(2, 83, 0), (0, 6, 0), (11, 2147483648, 2147483656), (11, 0, 4294967295), (11, 2147483702, 2147483710), (1, 4, 4294967296), (9, 0, 0), (9, 0, 0)]
def E_d37_0 : e2_E := [(2147483648, 2147583648, 0, 0), (2147483648, 2147483656, 1, 0), (2147483648, 2147483688, 2, 0), (2147483648, 2147483688, 3, 0), (2147483648, 2147483656, 4, 0)]
noncomputable def h_d37_0 : ev_H := (dn453 : e2_Q8)
noncomputable def cl_d37_e : List (Nat × e2_S) := [(28, e2_cutL (al_d37_0.set 5 (11, 2147483648, 2147483656)) 4 (E_d37_0.take 4) h_d37_0)]
set_option maxRecDepth 1000000 in
theorem ck_d37_e : e2_run (e2_cal S_d37 I_d37 4000 2) (e2_fin rs_d37) e2x_229 (e2_bpL cl_d37_e) (e2_cutA cl_d37_e) 4000 (e2_seek e2x_229 0) (e2_al 8 as_d37) [] E_d37 f_d37 = true := by decide +kernel
noncomputable def cl_d37_0 : List (Nat × e2_S) := [(28, e2_cutL (al_d37_0.set 5 (13, 12, 2147483656)) 4 (E_d37_0.take 4) h_d37_0)]
set_option maxRecDepth 1000000 in
theorem ck_d37_0 : e2_runM (e2_cal S_d37 I_d37 4000 2) (e2_fin rs_d37) e2x_229 (e2_bpL cl_d37_0) (e2_cutA cl_d37_0) 4000 (e2_seek e2x_229 28) al_d37_0 [] E_d37_0 h_d37_0 = true := by decide +kernel
set_option maxRecDepth 1000000 in
theorem ci_d37_0 : e2_idl 4 (al_d37_0.set 5 (9, 0, 0)) = true := by decide +kernel
set_option maxRecDepth 1000000 in
theorem cj_d37_0 : e2_idh 4 8 h_d37_0 = true := by decide +kernel
theorem cs_d37 (hen : en_ok) (l : Launch) : e2_smOk l 3 s_d37 := by
  refine e2_conG (H := 0) (n := 2) (C := evd_229) (S := S_d37) (I := I_d37) (fuel := 4000) hen ei_229 e2_fz (e2_fa ein_215 (e2_fa ein_216 (e2_fa ein_217 (e2_fa ein_225 (e2_fa ein_226 (e2_fa ein_227 (e2_fa ein_228 e2_fz))))))) (by decide) co_d37 fun M d _ hC hcall p e R s m args below meth c Q D cA A ads r0 ha hl0 => ?_
  have L_0 : e2_gdM M p l e R s m args below meth c Q D cA A ads r0 28 al_d37_0 [] E_d37_0 h_d37_0 := by
    refine e2_indL (u := 4) (j := 5) (lo := 2147483648) (hi := 2147483656) (b := 4) (dd := 0) hl0 (by decide) rfl rfl (Or.inr ⟨rfl, rfl⟩) rfl ci_d37_0 cj_d37_0 ?_
    intro r_0 k_0 hk_0 hp_0 hs_0 hn_0
    have hl_0 : r_0.length ≤ 5 := hs_0.len rfl
    have ha_0 := ha.ext hp_0
    exact e2_fromM hen ha_0 hcall (e2_cutA_ok (e2_fa (fun al st E h hc => hn_0 al st E h hc) e2_fz)) (hC [28]) (X := e2x_229) ex2_229 28 ck_d37_0
  have EN_0 := e2_entL (u := 4) (j := 5) (lo := 2147483648) (hi := 2147483656) hl0 rfl rfl rfl ci_d37_0 cj_d37_0 L_0
  exact e2_from hen ha hcall (e2_cutA_ok (e2_fa (fun al st E h hc => EN_0 al st E h hc) e2_fz)) (hC [28]) (X := e2x_229) ex2_229 0 ck_d37_e
/-! d38 X10_layFrom -/
def as_d38 : List ev_V := [(2, 83, 0), (0, 5, 0), (11, 2147483648, 2147483656), (11, 0, 4294967295)]
def E_d38 : e2_E := [(2147483648, 2147583648, 0, 0), (2147483648, 2147483656, 1, 0), (2147483648, 2147483688, 2, 0), (2147483648, 2147483688, 3, 0)]
noncomputable def f_d38 : ev_H := (dn453 : e2_Q8)
noncomputable def q_d38_0 : ev_H := (dn453 : e2_Q8)
noncomputable def rs_d38 : e2_Rs := [((9, 0, 0), q_d38_0)]
noncomputable def s_d38 : e2_Sm := (229, as_d38, E_d38, f_d38, rs_d38)
noncomputable def S_d38 : List e2_Sm := []
noncomputable def I_d38 : List e2_In := [(215, 2, e2x_215), (216, 1, e2x_216), (217, 1, e2x_217), (225, 5, e2x_225), (226, 3, e2x_226), (227, 2, e2x_227), (228, 3, e2x_228)]
set_option maxRecDepth 1000000 in
theorem co_d38 : e2_okSB E_d38.length as_d38 f_d38 rs_d38 = true := by decide +kernel
def al_d38_0 : List ev_V := [(2, 83, 0), (0, 5, 0), (11, 2147483648, 2147483656), (11, 0, 4294967295), (11, 2147483693, 2147483701), (1, 4, 4294967296), (9, 0, 0), (9, 0, 0)]
def E_d38_0 : e2_E := [(2147483648, 2147583648, 0, 0), (2147483648, 2147483656, 1, 0), (2147483648, 2147483688, 2, 0), (2147483648, 2147483688, 3, 0), (2147483648, 2147483656, 4, 0)]
noncomputable def h_d38_0 : ev_H := (dn453 : e2_Q8)
noncomputable def cl_d38_e : List (Nat × e2_S) := [(28, e2_cutL (al_d38_0.set 5 (11, 2147483648, 2147483656)) 4 (E_d38_0.take 4) h_d38_0)]
set_option maxRecDepth 1000000 in
theorem ck_d38_e : e2_run (e2_cal S_d38 I_d38 4000 2) (e2_fin rs_d38) e2x_229 (e2_bpL cl_d38_e) (e2_cutA cl_d38_e) 4000 (e2_seek e2x_229 0) (e2_al 8 as_d38) [] E_d38 f_d38 = true := by decide +kernel
noncomputable def cl_d38_0 : List (Nat × e2_S) := [(28, e2_cutL (al_d38_0.set 5 (13, 12, 2147483656)) 4 (E_d38_0.take 4) h_d38_0)]
set_option maxRecDepth 1000000 in
theorem ck_d38_0 : e2_runM (e2_cal S_d38 I_d38 4000 2) (e2_fin rs_d38) e2x_229 (e2_bpL cl_d38_0) (e2_cutA cl_d38_0) 4000 (e2_seek e2x_229 28) al_d38_0 [] E_d38_0 h_d38_0 = true := by decide +kernel
set_option maxRecDepth 1000000 in
theorem ci_d38_0 : e2_idl 4 (al_d38_0.set 5 (9, 0, 0)) = true := by decide +kernel
set_option maxRecDepth 1000000 in
theorem cj_d38_0 : e2_idh 4 8 h_d38_0 = true := by decide +kernel
theorem cs_d38 (hen : en_ok) (l : Launch) : e2_smOk l 3 s_d38 := by
  refine e2_conG (H := 0) (n := 2) (C := evd_229) (S := S_d38) (I := I_d38) (fuel := 4000) hen ei_229 e2_fz (e2_fa ein_215 (e2_fa ein_216 (e2_fa ein_217 (e2_fa ein_225 (e2_fa ein_226 (e2_fa ein_227 (e2_fa ein_228 e2_fz))))))) (by decide) co_d38 fun M d _ hC hcall p e R s m args below meth c Q D cA A ads r0 ha hl0 => ?_
  have L_0 : e2_gdM M p l e R s m args below meth c Q D cA A ads r0 28 al_d38_0 [] E_d38_0 h_d38_0 := by
    refine e2_indL (u := 4) (j := 5) (lo := 2147483648) (hi := 2147483656) (b := 4) (dd := 0) hl0 (by decide) rfl rfl (Or.inr ⟨rfl, rfl⟩) rfl ci_d38_0 cj_d38_0 ?_
    intro r_0 k_0 hk_0 hp_0 hs_0 hn_0
    have hl_0 : r_0.length ≤ 5 := hs_0.len rfl
    have ha_0 := ha.ext hp_0
    exact e2_fromM hen ha_0 hcall (e2_cutA_ok (e2_fa (fun al st E h hc => hn_0 al st E h hc) e2_fz)) (hC [28]) (X := e2x_229) ex2_229 28 ck_d38_0
  have EN_0 := e2_entL (u := 4) (j := 5) (lo := 2147483648) (hi := 2147483656) hl0 rfl rfl rfl ci_d38_0 cj_d38_0 L_0
  exact e2_from hen ha hcall (e2_cutA_ok (e2_fa (fun al st E h hc => EN_0 al st E h hc) e2_fz)) (hC [28]) (X := e2x_229) ex2_229 0 ck_d38_e
/-! d39 X10_layFrom -/
def as_d39 : List ev_V := [(2, 83, 0), (0, 4, 0), (11, 2147483648, 2147483656), (11, 0, 4294967295)]
def E_d39 : e2_E := [(2147483648, 2147583648, 0, 0), (2147483648, 2147483656, 1, 0), (2147483648, 2147483688, 2, 0), (2147483648, 2147483688, 3, 0)]
noncomputable def f_d39 : ev_H := (dn453 : e2_Q8)
noncomputable def q_d39_0 : ev_H := (dn453 : e2_Q8)
noncomputable def rs_d39 : e2_Rs := [((9, 0, 0), q_d39_0)]
noncomputable def s_d39 : e2_Sm := (229, as_d39, E_d39, f_d39, rs_d39)
noncomputable def S_d39 : List e2_Sm := []
noncomputable def I_d39 : List e2_In := [(215, 2, e2x_215), (216, 1, e2x_216), (217, 1, e2x_217), (225, 5, e2x_225), (226, 3, e2x_226), (227, 2, e2x_227), (228, 3, e2x_228)]
set_option maxRecDepth 1000000 in
theorem co_d39 : e2_okSB E_d39.length as_d39 f_d39 rs_d39 = true := by decide +kernel
def al_d39_0 : List ev_V := [(2, 83, 0), (0, 4, 0), (11, 2147483648, 2147483656), (11, 0, 4294967295), (11, 2147483684, 2147483692), (1, 4, 4294967296), (9, 0, 0), (9, 0, 0)]
def E_d39_0 : e2_E := [(2147483648, 2147583648, 0, 0), (2147483648, 2147483656, 1, 0), (2147483648, 2147483688, 2, 0), (2147483648, 2147483688, 3, 0), (2147483648, 2147483656, 4, 0)]
noncomputable def h_d39_0 : ev_H := (dn453 : e2_Q8)
noncomputable def cl_d39_e : List (Nat × e2_S) := [(28, e2_cutL (al_d39_0.set 5 (11, 2147483648, 2147483656)) 4 (E_d39_0.take 4) h_d39_0)]
set_option maxRecDepth 1000000 in
theorem ck_d39_e : e2_run (e2_cal S_d39 I_d39 4000 2) (e2_fin rs_d39) e2x_229 (e2_bpL cl_d39_e) (e2_cutA cl_d39_e) 4000 (e2_seek e2x_229 0) (e2_al 8 as_d39) [] E_d39 f_d39 = true := by decide +kernel
noncomputable def cl_d39_0 : List (Nat × e2_S) := [(28, e2_cutL (al_d39_0.set 5 (13, 12, 2147483656)) 4 (E_d39_0.take 4) h_d39_0)]
set_option maxRecDepth 1000000 in
theorem ck_d39_0 : e2_runM (e2_cal S_d39 I_d39 4000 2) (e2_fin rs_d39) e2x_229 (e2_bpL cl_d39_0) (e2_cutA cl_d39_0) 4000 (e2_seek e2x_229 28) al_d39_0 [] E_d39_0 h_d39_0 = true := by decide +kernel
set_option maxRecDepth 1000000 in
theorem ci_d39_0 : e2_idl 4 (al_d39_0.set 5 (9, 0, 0)) = true := by decide +kernel
set_option maxRecDepth 1000000 in
theorem cj_d39_0 : e2_idh 4 8 h_d39_0 = true := by decide +kernel
theorem cs_d39 (hen : en_ok) (l : Launch) : e2_smOk l 3 s_d39 := by
  refine e2_conG (H := 0) (n := 2) (C := evd_229) (S := S_d39) (I := I_d39) (fuel := 4000) hen ei_229 e2_fz (e2_fa ein_215 (e2_fa ein_216 (e2_fa ein_217 (e2_fa ein_225 (e2_fa ein_226 (e2_fa ein_227 (e2_fa ein_228 e2_fz))))))) (by decide) co_d39 fun M d _ hC hcall p e R s m args below meth c Q D cA A ads r0 ha hl0 => ?_
  have L_0 : e2_gdM M p l e R s m args below meth c Q D cA A ads r0 28 al_d39_0 [] E_d39_0 h_d39_0 := by
    refine e2_indL (u := 4) (j := 5) (lo := 2147483648) (hi := 2147483656) (b := 4) (dd := 0) hl0 (by decide) rfl rfl (Or.inr ⟨rfl, rfl⟩) rfl ci_d39_0 cj_d39_0 ?_
    intro r_0 k_0 hk_0 hp_0 hs_0 hn_0
    have hl_0 : r_0.length ≤ 5 := hs_0.len rfl
    have ha_0 := ha.ext hp_0
    exact e2_fromM hen ha_0 hcall (e2_cutA_ok (e2_fa (fun al st E h hc => hn_0 al st E h hc) e2_fz)) (hC [28]) (X := e2x_229) ex2_229 28 ck_d39_0
  have EN_0 := e2_entL (u := 4) (j := 5) (lo := 2147483648) (hi := 2147483656) hl0 rfl rfl rfl ci_d39_0 cj_d39_0 L_0
  exact e2_from hen ha hcall (e2_cutA_ok (e2_fa (fun al st E h hc => EN_0 al st E h hc) e2_fz)) (hC [28]) (X := e2x_229) ex2_229 0 ck_d39_e
/-! d40 X10_layFrom -/
def as_d40 : List ev_V := [(2, 83, 0), (0, 3, 0), (11, 2147483648, 2147483656), (11, 0, 4294967295)]
def E_d40 : e2_E := [(2147483648, 2147583648, 0, 0), (2147483648, 2147483656, 1, 0), (2147483648, 2147483688, 2, 0), (2147483648, 2147483688, 3, 0)]
noncomputable def f_d40 : ev_H := (dn453 : e2_Q8)
noncomputable def q_d40_0 : ev_H := (dn453 : e2_Q8)
noncomputable def rs_d40 : e2_Rs := [((9, 0, 0), q_d40_0)]
noncomputable def s_d40 : e2_Sm := (229, as_d40, E_d40, f_d40, rs_d40)
noncomputable def S_d40 : List e2_Sm := []
noncomputable def I_d40 : List e2_In := [(215, 2, e2x_215), (216, 1, e2x_216), (217, 1, e2x_217), (225, 5, e2x_225), (226, 3, e2x_226), (227, 2, e2x_227), (228, 3, e2x_228)]
set_option maxRecDepth 1000000 in
theorem co_d40 : e2_okSB E_d40.length as_d40 f_d40 rs_d40 = true := by decide +kernel
def al_d40_0 : List ev_V := [(2, 83, 0), (0, 3, 0), (11, 2147483648, 2147483656), (11, 0, 4294967295), (11, 2147483675, 2147483683), (1, 4, 4294967296), (9, 0, 0), (9, 0, 0)]
def E_d40_0 : e2_E := [(2147483648, 2147583648, 0, 0), (2147483648, 2147483656, 1, 0), (2147483648, 2147483688, 2, 0), (2147483648, 2147483688, 3, 0), (2147483648, 2147483656, 4, 0)]
noncomputable def h_d40_0 : ev_H := (dn453 : e2_Q8)
noncomputable def cl_d40_e : List (Nat × e2_S) := [(28, e2_cutL (al_d40_0.set 5 (11, 2147483648, 2147483656)) 4 (E_d40_0.take 4) h_d40_0)]
set_option maxRecDepth 1000000 in
theorem ck_d40_e : e2_run (e2_cal S_d40 I_d40 4000 2) (e2_fin rs_d40) e2x_229 (e2_bpL cl_d40_e) (e2_cutA cl_d40_e) 4000 (e2_seek e2x_229 0) (e2_al 8 as_d40) [] E_d40 f_d40 = true := by decide +kernel
noncomputable def cl_d40_0 : List (Nat × e2_S) := [(28, e2_cutL (al_d40_0.set 5 (13, 12, 2147483656)) 4 (E_d40_0.take 4) h_d40_0)]
set_option maxRecDepth 1000000 in
theorem ck_d40_0 : e2_runM (e2_cal S_d40 I_d40 4000 2) (e2_fin rs_d40) e2x_229 (e2_bpL cl_d40_0) (e2_cutA cl_d40_0) 4000 (e2_seek e2x_229 28) al_d40_0 [] E_d40_0 h_d40_0 = true := by decide +kernel
set_option maxRecDepth 1000000 in
theorem ci_d40_0 : e2_idl 4 (al_d40_0.set 5 (9, 0, 0)) = true := by decide +kernel
set_option maxRecDepth 1000000 in
theorem cj_d40_0 : e2_idh 4 8 h_d40_0 = true := by decide +kernel
theorem cs_d40 (hen : en_ok) (l : Launch) : e2_smOk l 3 s_d40 := by
  refine e2_conG (H := 0) (n := 2) (C := evd_229) (S := S_d40) (I := I_d40) (fuel := 4000) hen ei_229 e2_fz (e2_fa ein_215 (e2_fa ein_216 (e2_fa ein_217 (e2_fa ein_225 (e2_fa ein_226 (e2_fa ein_227 (e2_fa ein_228 e2_fz))))))) (by decide) co_d40 fun M d _ hC hcall p e R s m args below meth c Q D cA A ads r0 ha hl0 => ?_
  have L_0 : e2_gdM M p l e R s m args below meth c Q D cA A ads r0 28 al_d40_0 [] E_d40_0 h_d40_0 := by
    refine e2_indL (u := 4) (j := 5) (lo := 2147483648) (hi := 2147483656) (b := 4) (dd := 0) hl0 (by decide) rfl rfl (Or.inr ⟨rfl, rfl⟩) rfl ci_d40_0 cj_d40_0 ?_
    intro r_0 k_0 hk_0 hp_0 hs_0 hn_0
    have hl_0 : r_0.length ≤ 5 := hs_0.len rfl
    have ha_0 := ha.ext hp_0
    exact e2_fromM hen ha_0 hcall (e2_cutA_ok (e2_fa (fun al st E h hc => hn_0 al st E h hc) e2_fz)) (hC [28]) (X := e2x_229) ex2_229 28 ck_d40_0
  have EN_0 := e2_entL (u := 4) (j := 5) (lo := 2147483648) (hi := 2147483656) hl0 rfl rfl rfl ci_d40_0 cj_d40_0 L_0
  exact e2_from hen ha hcall (e2_cutA_ok (e2_fa (fun al st E h hc => EN_0 al st E h hc) e2_fz)) (hC [28]) (X := e2x_229) ex2_229 0 ck_d40_e
/-! d41 X10_layFrom -/
def as_d41 : List ev_V := [(2, 83, 0), (0, 2, 0), (11, 2147483648, 2147483656), (11, 0, 4294967295)]
def E_d41 : e2_E := [(2147483648, 2147583648, 0, 0), (2147483648, 2147483656, 1, 0), (2147483648, 2147483688, 2, 0), (2147483648, 2147483688, 3, 0)]
noncomputable def f_d41 : ev_H := (dn453 : e2_Q8)
noncomputable def q_d41_0 : ev_H := (dn453 : e2_Q8)
noncomputable def rs_d41 : e2_Rs := [((9, 0, 0), q_d41_0)]
noncomputable def s_d41 : e2_Sm := (229, as_d41, E_d41, f_d41, rs_d41)
noncomputable def S_d41 : List e2_Sm := []
noncomputable def I_d41 : List e2_In := [(215, 2, e2x_215), (216, 1, e2x_216), (217, 1, e2x_217), (225, 5, e2x_225), (226, 3, e2x_226), (227, 2, e2x_227), (228, 3, e2x_228)]
set_option maxRecDepth 1000000 in
theorem co_d41 : e2_okSB E_d41.length as_d41 f_d41 rs_d41 = true := by decide +kernel
def al_d41_0 : List ev_V := [(2, 83, 0), (0, 2, 0), (11, 2147483648, 2147483656), (11, 0, 4294967295), (11, 2147483666, 2147483674), (1, 4, 4294967296), (9, 0, 0), (9, 0, 0)]
def E_d41_0 : e2_E := [(2147483648, 2147583648, 0, 0), (2147483648, 2147483656, 1, 0), (2147483648, 2147483688, 2, 0), (2147483648, 2147483688, 3, 0), (2147483648, 2147483656, 4, 0)]
noncomputable def h_d41_0 : ev_H := (dn453 : e2_Q8)
noncomputable def cl_d41_e : List (Nat × e2_S) := [(28, e2_cutL (al_d41_0.set 5 (11, 2147483648, 2147483656)) 4 (E_d41_0.take 4) h_d41_0)]
set_option maxRecDepth 1000000 in
theorem ck_d41_e : e2_run (e2_cal S_d41 I_d41 4000 2) (e2_fin rs_d41) e2x_229 (e2_bpL cl_d41_e) (e2_cutA cl_d41_e) 4000 (e2_seek e2x_229 0) (e2_al 8 as_d41) [] E_d41 f_d41 = true := by decide +kernel
noncomputable def cl_d41_0 : List (Nat × e2_S) := [(28, e2_cutL (al_d41_0.set 5 (13, 12, 2147483656)) 4 (E_d41_0.take 4) h_d41_0)]
set_option maxRecDepth 1000000 in
theorem ck_d41_0 : e2_runM (e2_cal S_d41 I_d41 4000 2) (e2_fin rs_d41) e2x_229 (e2_bpL cl_d41_0) (e2_cutA cl_d41_0) 4000 (e2_seek e2x_229 28) al_d41_0 [] E_d41_0 h_d41_0 = true := by decide +kernel
set_option maxRecDepth 1000000 in
theorem ci_d41_0 : e2_idl 4 (al_d41_0.set 5 (9, 0, 0)) = true := by decide +kernel
set_option maxRecDepth 1000000 in
theorem cj_d41_0 : e2_idh 4 8 h_d41_0 = true := by decide +kernel
theorem cs_d41 (hen : en_ok) (l : Launch) : e2_smOk l 3 s_d41 := by
  refine e2_conG (H := 0) (n := 2) (C := evd_229) (S := S_d41) (I := I_d41) (fuel := 4000) hen ei_229 e2_fz (e2_fa ein_215 (e2_fa ein_216 (e2_fa ein_217 (e2_fa ein_225 (e2_fa ein_226 (e2_fa ein_227 (e2_fa ein_228 e2_fz))))))) (by decide) co_d41 fun M d _ hC hcall p e R s m args below meth c Q D cA A ads r0 ha hl0 => ?_
  have L_0 : e2_gdM M p l e R s m args below meth c Q D cA A ads r0 28 al_d41_0 [] E_d41_0 h_d41_0 := by
    refine e2_indL (u := 4) (j := 5) (lo := 2147483648) (hi := 2147483656) (b := 4) (dd := 0) hl0 (by decide) rfl rfl (Or.inr ⟨rfl, rfl⟩) rfl ci_d41_0 cj_d41_0 ?_
    intro r_0 k_0 hk_0 hp_0 hs_0 hn_0
    have hl_0 : r_0.length ≤ 5 := hs_0.len rfl
    have ha_0 := ha.ext hp_0
    exact e2_fromM hen ha_0 hcall (e2_cutA_ok (e2_fa (fun al st E h hc => hn_0 al st E h hc) e2_fz)) (hC [28]) (X := e2x_229) ex2_229 28 ck_d41_0
  have EN_0 := e2_entL (u := 4) (j := 5) (lo := 2147483648) (hi := 2147483656) hl0 rfl rfl rfl ci_d41_0 cj_d41_0 L_0
  exact e2_from hen ha hcall (e2_cutA_ok (e2_fa (fun al st E h hc => EN_0 al st E h hc) e2_fz)) (hC [28]) (X := e2x_229) ex2_229 0 ck_d41_e
/-! d42 X10_layFrom -/
def as_d42 : List ev_V := [(2, 83, 0), (0, 1, 0), (11, 2147483648, 2147483656), (11, 0, 4294967295)]
def E_d42 : e2_E := [(2147483648, 2147583648, 0, 0), (2147483648, 2147483656, 1, 0), (2147483648, 2147483688, 2, 0), (2147483648, 2147483688, 3, 0)]
noncomputable def f_d42 : ev_H := (dn453 : e2_Q8)
noncomputable def q_d42_0 : ev_H := (dn453 : e2_Q8)
noncomputable def rs_d42 : e2_Rs := [((9, 0, 0), q_d42_0)]
noncomputable def s_d42 : e2_Sm := (229, as_d42, E_d42, f_d42, rs_d42)
noncomputable def S_d42 : List e2_Sm := []
noncomputable def I_d42 : List e2_In := [(215, 2, e2x_215), (216, 1, e2x_216), (217, 1, e2x_217), (225, 5, e2x_225), (226, 3, e2x_226), (227, 2, e2x_227), (228, 3, e2x_228)]
set_option maxRecDepth 1000000 in
theorem co_d42 : e2_okSB E_d42.length as_d42 f_d42 rs_d42 = true := by decide +kernel
def al_d42_0 : List ev_V := [(2, 83, 0), (0, 1, 0), (11, 2147483648, 2147483656), (11, 0, 4294967295), (11, 2147483657, 2147483665), (1, 4, 4294967296), (9, 0, 0), (9, 0, 0)]
def E_d42_0 : e2_E := [(2147483648, 2147583648, 0, 0), (2147483648, 2147483656, 1, 0), (2147483648, 2147483688, 2, 0), (2147483648, 2147483688, 3, 0), (2147483648, 2147483656, 4, 0)]
noncomputable def h_d42_0 : ev_H := (dn453 : e2_Q8)
noncomputable def cl_d42_e : List (Nat × e2_S) := [(28, e2_cutL (al_d42_0.set 5 (11, 2147483648, 2147483656)) 4 (E_d42_0.take 4) h_d42_0)]
set_option maxRecDepth 1000000 in
theorem ck_d42_e : e2_run (e2_cal S_d42 I_d42 4000 2) (e2_fin rs_d42) e2x_229 (e2_bpL cl_d42_e) (e2_cutA cl_d42_e) 4000 (e2_seek e2x_229 0) (e2_al 8 as_d42) [] E_d42 f_d42 = true := by decide +kernel
noncomputable def cl_d42_0 : List (Nat × e2_S) := [(28, e2_cutL (al_d42_0.set 5 (13, 12, 2147483656)) 4 (E_d42_0.take 4) h_d42_0)]
set_option maxRecDepth 1000000 in
theorem ck_d42_0 : e2_runM (e2_cal S_d42 I_d42 4000 2) (e2_fin rs_d42) e2x_229 (e2_bpL cl_d42_0) (e2_cutA cl_d42_0) 4000 (e2_seek e2x_229 28) al_d42_0 [] E_d42_0 h_d42_0 = true := by decide +kernel
set_option maxRecDepth 1000000 in
theorem ci_d42_0 : e2_idl 4 (al_d42_0.set 5 (9, 0, 0)) = true := by decide +kernel
set_option maxRecDepth 1000000 in
theorem cj_d42_0 : e2_idh 4 8 h_d42_0 = true := by decide +kernel
theorem cs_d42 (hen : en_ok) (l : Launch) : e2_smOk l 3 s_d42 := by
  refine e2_conG (H := 0) (n := 2) (C := evd_229) (S := S_d42) (I := I_d42) (fuel := 4000) hen ei_229 e2_fz (e2_fa ein_215 (e2_fa ein_216 (e2_fa ein_217 (e2_fa ein_225 (e2_fa ein_226 (e2_fa ein_227 (e2_fa ein_228 e2_fz))))))) (by decide) co_d42 fun M d _ hC hcall p e R s m args below meth c Q D cA A ads r0 ha hl0 => ?_
  have L_0 : e2_gdM M p l e R s m args below meth c Q D cA A ads r0 28 al_d42_0 [] E_d42_0 h_d42_0 := by
    refine e2_indL (u := 4) (j := 5) (lo := 2147483648) (hi := 2147483656) (b := 4) (dd := 0) hl0 (by decide) rfl rfl (Or.inr ⟨rfl, rfl⟩) rfl ci_d42_0 cj_d42_0 ?_
    intro r_0 k_0 hk_0 hp_0 hs_0 hn_0
    have hl_0 : r_0.length ≤ 5 := hs_0.len rfl
    have ha_0 := ha.ext hp_0
    exact e2_fromM hen ha_0 hcall (e2_cutA_ok (e2_fa (fun al st E h hc => hn_0 al st E h hc) e2_fz)) (hC [28]) (X := e2x_229) ex2_229 28 ck_d42_0
  have EN_0 := e2_entL (u := 4) (j := 5) (lo := 2147483648) (hi := 2147483656) hl0 rfl rfl rfl ci_d42_0 cj_d42_0 L_0
  exact e2_from hen ha hcall (e2_cutA_ok (e2_fa (fun al st E h hc => EN_0 al st E h hc) e2_fz)) (hC [28]) (X := e2x_229) ex2_229 0 ck_d42_e
/-! d43 X10_layFrom -/
def as_d43 : List ev_V := [(2, 83, 0), (0, 0, 0), (11, 2147483648, 2147483656), (11, 0, 4294967295)]
def E_d43 : e2_E := [(2147483648, 2147583648, 0, 0), (2147483648, 2147483656, 1, 0), (2147483648, 2147483688, 2, 0), (2147483648, 2147483688, 3, 0)]
noncomputable def f_d43 : ev_H := (dn453 : e2_Q8)
noncomputable def q_d43_0 : ev_H := (dn453 : e2_Q8)
noncomputable def rs_d43 : e2_Rs := [((9, 0, 0), q_d43_0)]
noncomputable def s_d43 : e2_Sm := (229, as_d43, E_d43, f_d43, rs_d43)
noncomputable def S_d43 : List e2_Sm := []
noncomputable def I_d43 : List e2_In := [(215, 2, e2x_215), (216, 1, e2x_216), (217, 1, e2x_217), (225, 5, e2x_225), (226, 3, e2x_226), (227, 2, e2x_227), (228, 3, e2x_228)]
set_option maxRecDepth 1000000 in
theorem co_d43 : e2_okSB E_d43.length as_d43 f_d43 rs_d43 = true := by decide +kernel
def al_d43_0 : List ev_V := [(2, 83, 0), (0, 0, 0), (11, 2147483648, 2147483656), (11, 0, 4294967295), (11, 2147483648, 2147483656), (1, 4, 4294967296), (9, 0, 0), (9, 0, 0)]
def E_d43_0 : e2_E := [(2147483648, 2147583648, 0, 0), (2147483648, 2147483656, 1, 0), (2147483648, 2147483688, 2, 0), (2147483648, 2147483688, 3, 0), (2147483648, 2147483656, 4, 0)]
noncomputable def h_d43_0 : ev_H := (dn453 : e2_Q8)
noncomputable def cl_d43_e : List (Nat × e2_S) := [(28, e2_cutL (al_d43_0.set 5 (11, 2147483648, 2147483656)) 4 (E_d43_0.take 4) h_d43_0)]
set_option maxRecDepth 1000000 in
theorem ck_d43_e : e2_run (e2_cal S_d43 I_d43 4000 2) (e2_fin rs_d43) e2x_229 (e2_bpL cl_d43_e) (e2_cutA cl_d43_e) 4000 (e2_seek e2x_229 0) (e2_al 8 as_d43) [] E_d43 f_d43 = true := by decide +kernel
noncomputable def cl_d43_0 : List (Nat × e2_S) := [(28, e2_cutL (al_d43_0.set 5 (13, 12, 2147483656)) 4 (E_d43_0.take 4) h_d43_0)]
set_option maxRecDepth 1000000 in
theorem ck_d43_0 : e2_runM (e2_cal S_d43 I_d43 4000 2) (e2_fin rs_d43) e2x_229 (e2_bpL cl_d43_0) (e2_cutA cl_d43_0) 4000 (e2_seek e2x_229 28) al_d43_0 [] E_d43_0 h_d43_0 = true := by decide +kernel
set_option maxRecDepth 1000000 in
theorem ci_d43_0 : e2_idl 4 (al_d43_0.set 5 (9, 0, 0)) = true := by decide +kernel
set_option maxRecDepth 1000000 in
theorem cj_d43_0 : e2_idh 4 8 h_d43_0 = true := by decide +kernel
theorem cs_d43 (hen : en_ok) (l : Launch) : e2_smOk l 3 s_d43 := by
  refine e2_conG (H := 0) (n := 2) (C := evd_229) (S := S_d43) (I := I_d43) (fuel := 4000) hen ei_229 e2_fz (e2_fa ein_215 (e2_fa ein_216 (e2_fa ein_217 (e2_fa ein_225 (e2_fa ein_226 (e2_fa ein_227 (e2_fa ein_228 e2_fz))))))) (by decide) co_d43 fun M d _ hC hcall p e R s m args below meth c Q D cA A ads r0 ha hl0 => ?_
  have L_0 : e2_gdM M p l e R s m args below meth c Q D cA A ads r0 28 al_d43_0 [] E_d43_0 h_d43_0 := by
    refine e2_indL (u := 4) (j := 5) (lo := 2147483648) (hi := 2147483656) (b := 4) (dd := 0) hl0 (by decide) rfl rfl (Or.inr ⟨rfl, rfl⟩) rfl ci_d43_0 cj_d43_0 ?_
    intro r_0 k_0 hk_0 hp_0 hs_0 hn_0
    have hl_0 : r_0.length ≤ 5 := hs_0.len rfl
    have ha_0 := ha.ext hp_0
    exact e2_fromM hen ha_0 hcall (e2_cutA_ok (e2_fa (fun al st E h hc => hn_0 al st E h hc) e2_fz)) (hC [28]) (X := e2x_229) ex2_229 28 ck_d43_0
  have EN_0 := e2_entL (u := 4) (j := 5) (lo := 2147483648) (hi := 2147483656) hl0 rfl rfl rfl ci_d43_0 cj_d43_0 L_0
  exact e2_from hen ha hcall (e2_cutA_ok (e2_fa (fun al st E h hc => EN_0 al st E h hc) e2_fz)) (hC [28]) (X := e2x_229) ex2_229 0 ck_d43_e
