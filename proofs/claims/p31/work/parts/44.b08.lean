/-! CONTRACTS b, printed by a program -/
/-! b562 X10_layFrom -/
def as_b562 : List ev_V := [(2, 83, 0), (0, 11, 0), (11, 2147483648, 2147483656), (11, 0, 4294967295)]
def E_b562 : e2_E := [(2147483648, 2147583648, 0, 0), (2147483648, 2147483656, 1, 0)]
noncomputable def f_b562 : ev_H := (bn3596 : e2_Q8)
noncomputable def q_b562_0 : ev_H := (bn3596 : e2_Q8)
noncomputable def rs_b562 : e2_Rs := [((9, 0, 0), q_b562_0)]
noncomputable def s_b562 : e2_Sm := (229, as_b562, E_b562, f_b562, rs_b562)
noncomputable def S_b562 : List e2_Sm := []
noncomputable def I_b562 : List e2_In := [(215, 2, e2x_215), (216, 1, e2x_216), (217, 1, e2x_217), (225, 5, e2x_225), (226, 3, e2x_226), (227, 2, e2x_227), (228, 3, e2x_228)]
set_option maxRecDepth 1000000 in
theorem co_b562 : e2_okSB E_b562.length as_b562 f_b562 rs_b562 = true := by decide +kernel
def al_b562_0 : List ev_V := [(2, 83, 0), (0, 11, 0), (11, 2147483648, 2147483656), (11, 0, 4294967295), (11, 2147483747, 2147483755), (1, 2, 4294967296), (9, 0, 0), (9, 0, 0)]
def E_b562_0 : e2_E := [(2147483648, 2147583648, 0, 0), (2147483648, 2147483656, 1, 0), (2147483648, 2147483656, 2, 0)]
noncomputable def h_b562_0 : ev_H := (bn3596 : e2_Q8)
noncomputable def cl_b562_e : List (Nat × e2_S) := [(28, e2_cutL (al_b562_0.set 5 (11, 2147483648, 2147483656)) 2 (E_b562_0.take 2) h_b562_0)]
set_option maxRecDepth 1000000 in
theorem ck_b562_e : e2_run (e2_cal S_b562 I_b562 4000 2) (e2_fin rs_b562) e2x_229 (e2_bpL cl_b562_e) (e2_cutA cl_b562_e) 4000 (e2_seek e2x_229 0) (e2_al 8 as_b562) [] E_b562 f_b562 = true := by decide +kernel
noncomputable def cl_b562_0 : List (Nat × e2_S) := [(28, e2_cutL (al_b562_0.set 5 (13, 10, 2147483656)) 2 (E_b562_0.take 2) h_b562_0)]
set_option maxRecDepth 1000000 in
theorem ck_b562_0 : e2_runM (e2_cal S_b562 I_b562 4000 2) (e2_fin rs_b562) e2x_229 (e2_bpL cl_b562_0) (e2_cutA cl_b562_0) 4000 (e2_seek e2x_229 28) al_b562_0 [] E_b562_0 h_b562_0 = true := by decide +kernel
set_option maxRecDepth 1000000 in
theorem ci_b562_0 : e2_idl 2 (al_b562_0.set 5 (9, 0, 0)) = true := by decide +kernel
set_option maxRecDepth 1000000 in
theorem cj_b562_0 : e2_idh 2 8 h_b562_0 = true := by decide +kernel
theorem cs_b562 (hen : en_ok) (l : Launch) : e2_smOk l 3 s_b562 := by
  refine e2_conG (H := 0) (n := 2) (C := evd_229) (S := S_b562) (I := I_b562) (fuel := 4000) hen ei_229 e2_fz (e2_fa ein_215 (e2_fa ein_216 (e2_fa ein_217 (e2_fa ein_225 (e2_fa ein_226 (e2_fa ein_227 (e2_fa ein_228 e2_fz))))))) (by decide) co_b562 fun M d _ hC hcall p e R s m args below meth c Q D cA A ads r0 ha hl0 => ?_
  have L_0 : e2_gdM M p l e R s m args below meth c Q D cA A ads r0 28 al_b562_0 [] E_b562_0 h_b562_0 := by
    refine e2_indL (u := 2) (j := 5) (lo := 2147483648) (hi := 2147483656) (b := 2) (dd := 0) hl0 (by decide) rfl rfl (Or.inr ⟨rfl, rfl⟩) rfl ci_b562_0 cj_b562_0 ?_
    intro r_0 k_0 hk_0 hp_0 hs_0 hn_0
    have hl_0 : r_0.length ≤ 3 := hs_0.len rfl
    have ha_0 := ha.ext hp_0
    exact e2_fromM hen ha_0 hcall (e2_cutA_ok (e2_fa (fun al st E h hc => hn_0 al st E h hc) e2_fz)) (hC [28]) (X := e2x_229) ex2_229 28 ck_b562_0
  have EN_0 := e2_entL (u := 2) (j := 5) (lo := 2147483648) (hi := 2147483656) hl0 rfl rfl rfl ci_b562_0 cj_b562_0 L_0
  exact e2_from hen ha hcall (e2_cutA_ok (e2_fa (fun al st E h hc => EN_0 al st E h hc) e2_fz)) (hC [28]) (X := e2x_229) ex2_229 0 ck_b562_e
/-! b563 X10_layFrom -/
def as_b563 : List ev_V := [(2, 83, 0), (0, 10, 0), (11, 2147483648, 2147483656), (11, 0, 4294967295)]
def E_b563 : e2_E := [(2147483648, 2147583648, 0, 0), (2147483648, 2147483656, 1, 0)]
noncomputable def f_b563 : ev_H := (bn3596 : e2_Q8)
noncomputable def q_b563_0 : ev_H := (bn3596 : e2_Q8)
noncomputable def rs_b563 : e2_Rs := [((9, 0, 0), q_b563_0)]
noncomputable def s_b563 : e2_Sm := (229, as_b563, E_b563, f_b563, rs_b563)
noncomputable def S_b563 : List e2_Sm := []
noncomputable def I_b563 : List e2_In := [(215, 2, e2x_215), (216, 1, e2x_216), (217, 1, e2x_217), (225, 5, e2x_225), (226, 3, e2x_226), (227, 2, e2x_227), (228, 3, e2x_228)]
set_option maxRecDepth 1000000 in
theorem co_b563 : e2_okSB E_b563.length as_b563 f_b563 rs_b563 = true := by decide +kernel
def al_b563_0 : List ev_V := [(2, 83, 0), (0, 10, 0), (11, 2147483648, 2147483656), (11, 0, 4294967295), (11, 2147483738, 2147483746), (1, 2, 4294967296), (9, 0, 0), (9, 0, 0)]
def E_b563_0 : e2_E := [(2147483648, 2147583648, 0, 0), (2147483648, 2147483656, 1, 0), (2147483648, 2147483656, 2, 0)]
noncomputable def h_b563_0 : ev_H := (bn3596 : e2_Q8)
noncomputable def cl_b563_e : List (Nat × e2_S) := [(28, e2_cutL (al_b563_0.set 5 (11, 2147483648, 2147483656)) 2 (E_b563_0.take 2) h_b563_0)]
set_option maxRecDepth 1000000 in
theorem ck_b563_e : e2_run (e2_cal S_b563 I_b563 4000 2) (e2_fin rs_b563) e2x_229 (e2_bpL cl_b563_e) (e2_cutA cl_b563_e) 4000 (e2_seek e2x_229 0) (e2_al 8 as_b563) [] E_b563 f_b563 = true := by decide +kernel
noncomputable def cl_b563_0 : List (Nat × e2_S) := [(28, e2_cutL (al_b563_0.set 5 (13, 10, 2147483656)) 2 (E_b563_0.take 2) h_b563_0)]
set_option maxRecDepth 1000000 in
theorem ck_b563_0 : e2_runM (e2_cal S_b563 I_b563 4000 2) (e2_fin rs_b563) e2x_229 (e2_bpL cl_b563_0) (e2_cutA cl_b563_0) 4000 (e2_seek e2x_229 28) al_b563_0 [] E_b563_0 h_b563_0 = true := by decide +kernel
set_option maxRecDepth 1000000 in
theorem ci_b563_0 : e2_idl 2 (al_b563_0.set 5 (9, 0, 0)) = true := by decide +kernel
set_option maxRecDepth 1000000 in
theorem cj_b563_0 : e2_idh 2 8 h_b563_0 = true := by decide +kernel
theorem cs_b563 (hen : en_ok) (l : Launch) : e2_smOk l 3 s_b563 := by
  refine e2_conG (H := 0) (n := 2) (C := evd_229) (S := S_b563) (I := I_b563) (fuel := 4000) hen ei_229 e2_fz (e2_fa ein_215 (e2_fa ein_216 (e2_fa ein_217 (e2_fa ein_225 (e2_fa ein_226 (e2_fa ein_227 (e2_fa ein_228 e2_fz))))))) (by decide) co_b563 fun M d _ hC hcall p e R s m args below meth c Q D cA A ads r0 ha hl0 => ?_
  have L_0 : e2_gdM M p l e R s m args below meth c Q D cA A ads r0 28 al_b563_0 [] E_b563_0 h_b563_0 := by
    refine e2_indL (u := 2) (j := 5) (lo := 2147483648) (hi := 2147483656) (b := 2) (dd := 0) hl0 (by decide) rfl rfl (Or.inr ⟨rfl, rfl⟩) rfl ci_b563_0 cj_b563_0 ?_
    intro r_0 k_0 hk_0 hp_0 hs_0 hn_0
    have hl_0 : r_0.length ≤ 3 := hs_0.len rfl
    have ha_0 := ha.ext hp_0
    exact e2_fromM hen ha_0 hcall (e2_cutA_ok (e2_fa (fun al st E h hc => hn_0 al st E h hc) e2_fz)) (hC [28]) (X := e2x_229) ex2_229 28 ck_b563_0
  have EN_0 := e2_entL (u := 2) (j := 5) (lo := 2147483648) (hi := 2147483656) hl0 rfl rfl rfl ci_b563_0 cj_b563_0 L_0
  exact e2_from hen ha hcall (e2_cutA_ok (e2_fa (fun al st E h hc => EN_0 al st E h hc) e2_fz)) (hC [28]) (X := e2x_229) ex2_229 0 ck_b563_e
/-! b564 X10_layFrom -/
def as_b564 : List ev_V := [(2, 83, 0), (0, 9, 0), (11, 2147483648, 2147483656), (11, 0, 4294967295)]
def E_b564 : e2_E := [(2147483648, 2147583648, 0, 0), (2147483648, 2147483656, 1, 0)]
noncomputable def f_b564 : ev_H := (bn3596 : e2_Q8)
noncomputable def q_b564_0 : ev_H := (bn3596 : e2_Q8)
noncomputable def rs_b564 : e2_Rs := [((9, 0, 0), q_b564_0)]
noncomputable def s_b564 : e2_Sm := (229, as_b564, E_b564, f_b564, rs_b564)
noncomputable def S_b564 : List e2_Sm := []
noncomputable def I_b564 : List e2_In := [(215, 2, e2x_215), (216, 1, e2x_216), (217, 1, e2x_217), (225, 5, e2x_225), (226, 3, e2x_226), (227, 2, e2x_227), (228, 3, e2x_228)]
set_option maxRecDepth 1000000 in
theorem co_b564 : e2_okSB E_b564.length as_b564 f_b564 rs_b564 = true := by decide +kernel
def al_b564_0 : List ev_V := [(2, 83, 0), (0, 9, 0), (11, 2147483648, 2147483656), (11, 0, 4294967295), (11, 2147483729, 2147483737), (1, 2, 4294967296), (9, 0, 0), (9, 0, 0)]
def E_b564_0 : e2_E := [(2147483648, 2147583648, 0, 0), (2147483648, 2147483656, 1, 0), (2147483648, 2147483656, 2, 0)]
noncomputable def h_b564_0 : ev_H := (bn3596 : e2_Q8)
noncomputable def cl_b564_e : List (Nat × e2_S) := [(28, e2_cutL (al_b564_0.set 5 (11, 2147483648, 2147483656)) 2 (E_b564_0.take 2) h_b564_0)]
set_option maxRecDepth 1000000 in
theorem ck_b564_e : e2_run (e2_cal S_b564 I_b564 4000 2) (e2_fin rs_b564) e2x_229 (e2_bpL cl_b564_e) (e2_cutA cl_b564_e) 4000 (e2_seek e2x_229 0) (e2_al 8 as_b564) [] E_b564 f_b564 = true := by decide +kernel
noncomputable def cl_b564_0 : List (Nat × e2_S) := [(28, e2_cutL (al_b564_0.set 5 (13, 10, 2147483656)) 2 (E_b564_0.take 2) h_b564_0)]
set_option maxRecDepth 1000000 in
theorem ck_b564_0 : e2_runM (e2_cal S_b564 I_b564 4000 2) (e2_fin rs_b564) e2x_229 (e2_bpL cl_b564_0) (e2_cutA cl_b564_0) 4000 (e2_seek e2x_229 28) al_b564_0 [] E_b564_0 h_b564_0 = true := by decide +kernel
set_option maxRecDepth 1000000 in
theorem ci_b564_0 : e2_idl 2 (al_b564_0.set 5 (9, 0, 0)) = true := by decide +kernel
set_option maxRecDepth 1000000 in
theorem cj_b564_0 : e2_idh 2 8 h_b564_0 = true := by decide +kernel
theorem cs_b564 (hen : en_ok) (l : Launch) : e2_smOk l 3 s_b564 := by
  refine e2_conG (H := 0) (n := 2) (C := evd_229) (S := S_b564) (I := I_b564) (fuel := 4000) hen ei_229 e2_fz (e2_fa ein_215 (e2_fa ein_216 (e2_fa ein_217 (e2_fa ein_225 (e2_fa ein_226 (e2_fa ein_227 (e2_fa ein_228 e2_fz))))))) (by decide) co_b564 fun M d _ hC hcall p e R s m args below meth c Q D cA A ads r0 ha hl0 => ?_
  have L_0 : e2_gdM M p l e R s m args below meth c Q D cA A ads r0 28 al_b564_0 [] E_b564_0 h_b564_0 := by
    refine e2_indL (u := 2) (j := 5) (lo := 2147483648) (hi := 2147483656) (b := 2) (dd := 0) hl0 (by decide) rfl rfl (Or.inr ⟨rfl, rfl⟩) rfl ci_b564_0 cj_b564_0 ?_
    intro r_0 k_0 hk_0 hp_0 hs_0 hn_0
    have hl_0 : r_0.length ≤ 3 := hs_0.len rfl
    have ha_0 := ha.ext hp_0
    exact e2_fromM hen ha_0 hcall (e2_cutA_ok (e2_fa (fun al st E h hc => hn_0 al st E h hc) e2_fz)) (hC [28]) (X := e2x_229) ex2_229 28 ck_b564_0
  have EN_0 := e2_entL (u := 2) (j := 5) (lo := 2147483648) (hi := 2147483656) hl0 rfl rfl rfl ci_b564_0 cj_b564_0 L_0
  exact e2_from hen ha hcall (e2_cutA_ok (e2_fa (fun al st E h hc => EN_0 al st E h hc) e2_fz)) (hC [28]) (X := e2x_229) ex2_229 0 ck_b564_e
/-! b565 X10_layFrom -/
def as_b565 : List ev_V := [(2, 83, 0), (0, 8, 0), (11, 2147483648, 2147483656), (11, 0, 4294967295)]
def E_b565 : e2_E := [(2147483648, 2147583648, 0, 0), (2147483648, 2147483656, 1, 0)]
noncomputable def f_b565 : ev_H := (bn3596 : e2_Q8)
noncomputable def q_b565_0 : ev_H := (bn3596 : e2_Q8)
noncomputable def rs_b565 : e2_Rs := [((9, 0, 0), q_b565_0)]
noncomputable def s_b565 : e2_Sm := (229, as_b565, E_b565, f_b565, rs_b565)
noncomputable def S_b565 : List e2_Sm := []
noncomputable def I_b565 : List e2_In := [(215, 2, e2x_215), (216, 1, e2x_216), (217, 1, e2x_217), (225, 5, e2x_225), (226, 3, e2x_226), (227, 2, e2x_227), (228, 3, e2x_228)]
set_option maxRecDepth 1000000 in
theorem co_b565 : e2_okSB E_b565.length as_b565 f_b565 rs_b565 = true := by decide +kernel
def al_b565_0 : List ev_V := [(2, 83, 0), (0, 8, 0), (11, 2147483648, 2147483656), (11, 0, 4294967295), (11, 2147483720, 2147483728), (1, 2, 4294967296), (9, 0, 0), (9, 0, 0)]
def E_b565_0 : e2_E := [(2147483648, 2147583648, 0, 0), (2147483648, 2147483656, 1, 0), (2147483648, 2147483656, 2, 0)]
noncomputable def h_b565_0 : ev_H := (bn3596 : e2_Q8)
noncomputable def cl_b565_e : List (Nat × e2_S) := [(28, e2_cutL (al_b565_0.set 5 (11, 2147483648, 2147483656)) 2 (E_b565_0.take 2) h_b565_0)]
set_option maxRecDepth 1000000 in
theorem ck_b565_e : e2_run (e2_cal S_b565 I_b565 4000 2) (e2_fin rs_b565) e2x_229 (e2_bpL cl_b565_e) (e2_cutA cl_b565_e) 4000 (e2_seek e2x_229 0) (e2_al 8 as_b565) [] E_b565 f_b565 = true := by decide +kernel
noncomputable def cl_b565_0 : List (Nat × e2_S) := [(28, e2_cutL (al_b565_0.set 5 (13, 10, 2147483656)) 2 (E_b565_0.take 2) h_b565_0)]
set_option maxRecDepth 1000000 in
theorem ck_b565_0 : e2_runM (e2_cal S_b565 I_b565 4000 2) (e2_fin rs_b565) e2x_229 (e2_bpL cl_b565_0) (e2_cutA cl_b565_0) 4000 (e2_seek e2x_229 28) al_b565_0 [] E_b565_0 h_b565_0 = true := by decide +kernel
set_option maxRecDepth 1000000 in
theorem ci_b565_0 : e2_idl 2 (al_b565_0.set 5 (9, 0, 0)) = true := by decide +kernel
set_option maxRecDepth 1000000 in
theorem cj_b565_0 : e2_idh 2 8 h_b565_0 = true := by decide +kernel
theorem cs_b565 (hen : en_ok) (l : Launch) : e2_smOk l 3 s_b565 := by
  refine e2_conG (H := 0) (n := 2) (C := evd_229) (S := S_b565) (I := I_b565) (fuel := 4000) hen ei_229 e2_fz (e2_fa ein_215 (e2_fa ein_216 (e2_fa ein_217 (e2_fa ein_225 (e2_fa ein_226 (e2_fa ein_227 (e2_fa ein_228 e2_fz))))))) (by decide) co_b565 fun M d _ hC hcall p e R s m args below meth c Q D cA A ads r0 ha hl0 => ?_
  have L_0 : e2_gdM M p l e R s m args below meth c Q D cA A ads r0 28 al_b565_0 [] E_b565_0 h_b565_0 := by
    refine e2_indL (u := 2) (j := 5) (lo := 2147483648) (hi := 2147483656) (b := 2) (dd := 0) hl0 (by decide) rfl rfl (Or.inr ⟨rfl, rfl⟩) rfl ci_b565_0 cj_b565_0 ?_
    intro r_0 k_0 hk_0 hp_0 hs_0 hn_0
    have hl_0 : r_0.length ≤ 3 := hs_0.len rfl
    have ha_0 := ha.ext hp_0
    exact e2_fromM hen ha_0 hcall (e2_cutA_ok (e2_fa (fun al st E h hc => hn_0 al st E h hc) e2_fz)) (hC [28]) (X := e2x_229) ex2_229 28 ck_b565_0
  have EN_0 := e2_entL (u := 2) (j := 5) (lo := 2147483648) (hi := 2147483656) hl0 rfl rfl rfl ci_b565_0 cj_b565_0 L_0
  exact e2_from hen ha hcall (e2_cutA_ok (e2_fa (fun al st E h hc => EN_0 al st E h hc) e2_fz)) (hC [28]) (X := e2x_229) ex2_229 0 ck_b565_e
/-! b566 X10_layFrom -/
def as_b566 : List ev_V := [(2, 83, 0), (0, 7, 0), (11, 2147483648, 2147483656), (11, 0, 4294967295)]
def E_b566 : e2_E := [(2147483648, 2147583648, 0, 0), (2147483648, 2147483656, 1, 0)]
noncomputable def f_b566 : ev_H := (bn3596 : e2_Q8)
noncomputable def q_b566_0 : ev_H := (bn3596 : e2_Q8)
noncomputable def rs_b566 : e2_Rs := [((9, 0, 0), q_b566_0)]
noncomputable def s_b566 : e2_Sm := (229, as_b566, E_b566, f_b566, rs_b566)
noncomputable def S_b566 : List e2_Sm := []
noncomputable def I_b566 : List e2_In := [(215, 2, e2x_215), (216, 1, e2x_216), (217, 1, e2x_217), (225, 5, e2x_225), (226, 3, e2x_226), (227, 2, e2x_227), (228, 3, e2x_228)]
set_option maxRecDepth 1000000 in
theorem co_b566 : e2_okSB E_b566.length as_b566 f_b566 rs_b566 = true := by decide +kernel
def al_b566_0 : List ev_V := [(2, 83, 0), (0, 7, 0), (11, 2147483648, 2147483656), (11, 0, 4294967295), (11, 2147483711, 2147483719), (1, 2, 4294967296), (9, 0, 0), (9, 0, 0)]
def E_b566_0 : e2_E := [(2147483648, 2147583648, 0, 0), (2147483648, 2147483656, 1, 0), (2147483648, 2147483656, 2, 0)]
noncomputable def h_b566_0 : ev_H := (bn3596 : e2_Q8)
noncomputable def cl_b566_e : List (Nat × e2_S) := [(28, e2_cutL (al_b566_0.set 5 (11, 2147483648, 2147483656)) 2 (E_b566_0.take 2) h_b566_0)]
set_option maxRecDepth 1000000 in
theorem ck_b566_e : e2_run (e2_cal S_b566 I_b566 4000 2) (e2_fin rs_b566) e2x_229 (e2_bpL cl_b566_e) (e2_cutA cl_b566_e) 4000 (e2_seek e2x_229 0) (e2_al 8 as_b566) [] E_b566 f_b566 = true := by decide +kernel
noncomputable def cl_b566_0 : List (Nat × e2_S) := [(28, e2_cutL (al_b566_0.set 5 (13, 10, 2147483656)) 2 (E_b566_0.take 2) h_b566_0)]
set_option maxRecDepth 1000000 in
theorem ck_b566_0 : e2_runM (e2_cal S_b566 I_b566 4000 2) (e2_fin rs_b566) e2x_229 (e2_bpL cl_b566_0) (e2_cutA cl_b566_0) 4000 (e2_seek e2x_229 28) al_b566_0 [] E_b566_0 h_b566_0 = true := by decide +kernel
set_option maxRecDepth 1000000 in
theorem ci_b566_0 : e2_idl 2 (al_b566_0.set 5 (9, 0, 0)) = true := by decide +kernel
set_option maxRecDepth 1000000 in
theorem cj_b566_0 : e2_idh 2 8 h_b566_0 = true := by decide +kernel
theorem cs_b566 (hen : en_ok) (l : Launch) : e2_smOk l 3 s_b566 := by
  refine e2_conG (H := 0) (n := 2) (C := evd_229) (S := S_b566) (I := I_b566) (fuel := 4000) hen ei_229 e2_fz (e2_fa ein_215 (e2_fa ein_216 (e2_fa ein_217 (e2_fa ein_225 (e2_fa ein_226 (e2_fa ein_227 (e2_fa ein_228 e2_fz))))))) (by decide) co_b566 fun M d _ hC hcall p e R s m args below meth c Q D cA A ads r0 ha hl0 => ?_
  have L_0 : e2_gdM M p l e R s m args below meth c Q D cA A ads r0 28 al_b566_0 [] E_b566_0 h_b566_0 := by
    refine e2_indL (u := 2) (j := 5) (lo := 2147483648) (hi := 2147483656) (b := 2) (dd := 0) hl0 (by decide) rfl rfl (Or.inr ⟨rfl, rfl⟩) rfl ci_b566_0 cj_b566_0 ?_
    intro r_0 k_0 hk_0 hp_0 hs_0 hn_0
    have hl_0 : r_0.length ≤ 3 := hs_0.len rfl
    have ha_0 := ha.ext hp_0
    exact e2_fromM hen ha_0 hcall (e2_cutA_ok (e2_fa (fun al st E h hc => hn_0 al st E h hc) e2_fz)) (hC [28]) (X := e2x_229) ex2_229 28 ck_b566_0
  have EN_0 := e2_entL (u := 2) (j := 5) (lo := 2147483648) (hi := 2147483656) hl0 rfl rfl rfl ci_b566_0 cj_b566_0 L_0
  exact e2_from hen ha hcall (e2_cutA_ok (e2_fa (fun al st E h hc => EN_0 al st E h hc) e2_fz)) (hC [28]) (X := e2x_229) ex2_229 0 ck_b566_e
/-! b567 X10_layFrom -/
def as_b567 : List ev_V := [(2, 83, 0), (0, 6, 0), (11, 2147483648, 2147483656), (11, 0, 4294967295)]
def E_b567 : e2_E := [(2147483648, 2147583648, 0, 0), (2147483648, 2147483656, 1, 0)]
noncomputable def f_b567 : ev_H := (bn3596 : e2_Q8)
noncomputable def q_b567_0 : ev_H := (bn3596 : e2_Q8)
noncomputable def rs_b567 : e2_Rs := [((9, 0, 0), q_b567_0)]
noncomputable def s_b567 : e2_Sm := (229, as_b567, E_b567, f_b567, rs_b567)
noncomputable def S_b567 : List e2_Sm := []
noncomputable def I_b567 : List e2_In := [(215, 2, e2x_215), (216, 1, e2x_216), (217, 1, e2x_217), (225, 5, e2x_225), (226, 3, e2x_226), (227, 2, e2x_227), (228, 3, e2x_228)]
set_option maxRecDepth 1000000 in
theorem co_b567 : e2_okSB E_b567.length as_b567 f_b567 rs_b567 = true := by decide +kernel
def al_b567_0 : List ev_V := [(2, 83, 0), (0, 6, 0), (11, 2147483648, 2147483656), (11, 0, 4294967295), (11, 2147483702, 2147483710), (1, 2, 4294967296), (9, 0, 0), (9, 0, 0)]
def E_b567_0 : e2_E := [(2147483648, 2147583648, 0, 0), (2147483648, 2147483656, 1, 0), (2147483648, 2147483656, 2, 0)]
noncomputable def h_b567_0 : ev_H := (bn3596 : e2_Q8)
noncomputable def cl_b567_e : List (Nat × e2_S) := [(28, e2_cutL (al_b567_0.set 5 (11, 2147483648, 2147483656)) 2 (E_b567_0.take 2) h_b567_0)]
set_option maxRecDepth 1000000 in
theorem ck_b567_e : e2_run (e2_cal S_b567 I_b567 4000 2) (e2_fin rs_b567) e2x_229 (e2_bpL cl_b567_e) (e2_cutA cl_b567_e) 4000 (e2_seek e2x_229 0) (e2_al 8 as_b567) [] E_b567 f_b567 = true := by decide +kernel
noncomputable def cl_b567_0 : List (Nat × e2_S) := [(28, e2_cutL (al_b567_0.set 5 (13, 10, 2147483656)) 2 (E_b567_0.take 2) h_b567_0)]
set_option maxRecDepth 1000000 in
theorem ck_b567_0 : e2_runM (e2_cal S_b567 I_b567 4000 2) (e2_fin rs_b567) e2x_229 (e2_bpL cl_b567_0) (e2_cutA cl_b567_0) 4000 (e2_seek e2x_229 28) al_b567_0 [] E_b567_0 h_b567_0 = true := by decide +kernel
set_option maxRecDepth 1000000 in
theorem ci_b567_0 : e2_idl 2 (al_b567_0.set 5 (9, 0, 0)) = true := by decide +kernel
set_option maxRecDepth 1000000 in
theorem cj_b567_0 : e2_idh 2 8 h_b567_0 = true := by decide +kernel
theorem cs_b567 (hen : en_ok) (l : Launch) : e2_smOk l 3 s_b567 := by
  refine e2_conG (H := 0) (n := 2) (C := evd_229) (S := S_b567) (I := I_b567) (fuel := 4000) hen ei_229 e2_fz (e2_fa ein_215 (e2_fa ein_216 (e2_fa ein_217 (e2_fa ein_225 (e2_fa ein_226 (e2_fa ein_227 (e2_fa ein_228 e2_fz))))))) (by decide) co_b567 fun M d _ hC hcall p e R s m args below meth c Q D cA A ads r0 ha hl0 => ?_
  have L_0 : e2_gdM M p l e R s m args below meth c Q D cA A ads r0 28 al_b567_0 [] E_b567_0 h_b567_0 := by
    refine e2_indL (u := 2) (j := 5) (lo := 2147483648) (hi := 2147483656) (b := 2) (dd := 0) hl0 (by decide) rfl rfl (Or.inr ⟨rfl, rfl⟩) rfl ci_b567_0 cj_b567_0 ?_
    intro r_0 k_0 hk_0 hp_0 hs_0 hn_0
    have hl_0 : r_0.length ≤ 3 := hs_0.len rfl
    have ha_0 := ha.ext hp_0
    exact e2_fromM hen ha_0 hcall (e2_cutA_ok (e2_fa (fun al st E h hc => hn_0 al st E h hc) e2_fz)) (hC [28]) (X := e2x_229) ex2_229 28 ck_b567_0
  have EN_0 := e2_entL (u := 2) (j := 5) (lo := 2147483648) (hi := 2147483656) hl0 rfl rfl rfl ci_b567_0 cj_b567_0 L_0
  exact e2_from hen ha hcall (e2_cutA_ok (e2_fa (fun al st E h hc => EN_0 al st E h hc) e2_fz)) (hC [28]) (X := e2x_229) ex2_229 0 ck_b567_e
/-! b568 X10_layFrom -/
def as_b568 : List ev_V := [(2, 83, 0), (0, 5, 0), (11, 2147483648, 2147483656), (11, 0, 4294967295)]
def E_b568 : e2_E := [(2147483648, 2147583648, 0, 0), (2147483648, 2147483656, 1, 0)]
noncomputable def f_b568 : ev_H := (bn3596 : e2_Q8)
noncomputable def q_b568_0 : ev_H := (bn3596 : e2_Q8)
noncomputable def rs_b568 : e2_Rs := [((9, 0, 0), q_b568_0)]
noncomputable def s_b568 : e2_Sm := (229, as_b568, E_b568, f_b568, rs_b568)
noncomputable def S_b568 : List e2_Sm := []
noncomputable def I_b568 : List e2_In := [(215, 2, e2x_215), (216, 1, e2x_216), (217, 1, e2x_217), (225, 5, e2x_225), (226, 3, e2x_226), (227, 2, e2x_227), (228, 3, e2x_228)]
set_option maxRecDepth 1000000 in
theorem co_b568 : e2_okSB E_b568.length as_b568 f_b568 rs_b568 = true := by decide +kernel
def al_b568_0 : List ev_V := [(2, 83, 0), (0, 5, 0), (11, 2147483648, 2147483656), (11, 0, 4294967295), (11, 2147483693, 2147483701), (1, 2, 4294967296), (9, 0, 0), (9, 0, 0)]
def E_b568_0 : e2_E := [(2147483648, 2147583648, 0, 0), (2147483648, 2147483656, 1, 0), (2147483648, 2147483656, 2, 0)]
noncomputable def h_b568_0 : ev_H := (bn3596 : e2_Q8)
noncomputable def cl_b568_e : List (Nat × e2_S) := [(28, e2_cutL (al_b568_0.set 5 (11, 2147483648, 2147483656)) 2 (E_b568_0.take 2) h_b568_0)]
set_option maxRecDepth 1000000 in
theorem ck_b568_e : e2_run (e2_cal S_b568 I_b568 4000 2) (e2_fin rs_b568) e2x_229 (e2_bpL cl_b568_e) (e2_cutA cl_b568_e) 4000 (e2_seek e2x_229 0) (e2_al 8 as_b568) [] E_b568 f_b568 = true := by decide +kernel
noncomputable def cl_b568_0 : List (Nat × e2_S) := [(28, e2_cutL (al_b568_0.set 5 (13, 10, 2147483656)) 2 (E_b568_0.take 2) h_b568_0)]
set_option maxRecDepth 1000000 in
theorem ck_b568_0 : e2_runM (e2_cal S_b568 I_b568 4000 2) (e2_fin rs_b568) e2x_229 (e2_bpL cl_b568_0) (e2_cutA cl_b568_0) 4000 (e2_seek e2x_229 28) al_b568_0 [] E_b568_0 h_b568_0 = true := by decide +kernel
set_option maxRecDepth 1000000 in
theorem ci_b568_0 : e2_idl 2 (al_b568_0.set 5 (9, 0, 0)) = true := by decide +kernel
set_option maxRecDepth 1000000 in
theorem cj_b568_0 : e2_idh 2 8 h_b568_0 = true := by decide +kernel
theorem cs_b568 (hen : en_ok) (l : Launch) : e2_smOk l 3 s_b568 := by
  refine e2_conG (H := 0) (n := 2) (C := evd_229) (S := S_b568) (I := I_b568) (fuel := 4000) hen ei_229 e2_fz (e2_fa ein_215 (e2_fa ein_216 (e2_fa ein_217 (e2_fa ein_225 (e2_fa ein_226 (e2_fa ein_227 (e2_fa ein_228 e2_fz))))))) (by decide) co_b568 fun M d _ hC hcall p e R s m args below meth c Q D cA A ads r0 ha hl0 => ?_
  have L_0 : e2_gdM M p l e R s m args below meth c Q D cA A ads r0 28 al_b568_0 [] E_b568_0 h_b568_0 := by
    refine e2_indL (u := 2) (j := 5) (lo := 2147483648) (hi := 2147483656) (b := 2) (dd := 0) hl0 (by decide) rfl rfl (Or.inr ⟨rfl, rfl⟩) rfl ci_b568_0 cj_b568_0 ?_
    intro r_0 k_0 hk_0 hp_0 hs_0 hn_0
    have hl_0 : r_0.length ≤ 3 := hs_0.len rfl
    have ha_0 := ha.ext hp_0
    exact e2_fromM hen ha_0 hcall (e2_cutA_ok (e2_fa (fun al st E h hc => hn_0 al st E h hc) e2_fz)) (hC [28]) (X := e2x_229) ex2_229 28 ck_b568_0
  have EN_0 := e2_entL (u := 2) (j := 5) (lo := 2147483648) (hi := 2147483656) hl0 rfl rfl rfl ci_b568_0 cj_b568_0 L_0
  exact e2_from hen ha hcall (e2_cutA_ok (e2_fa (fun al st E h hc => EN_0 al st E h hc) e2_fz)) (hC [28]) (X := e2x_229) ex2_229 0 ck_b568_e
/-! b569 X10_layFrom -/
def as_b569 : List ev_V := [(2, 83, 0), (0, 4, 0), (11, 2147483648, 2147483656), (11, 0, 4294967295)]
def E_b569 : e2_E := [(2147483648, 2147583648, 0, 0), (2147483648, 2147483656, 1, 0)]
noncomputable def f_b569 : ev_H := (bn3596 : e2_Q8)
noncomputable def q_b569_0 : ev_H := (bn3596 : e2_Q8)
noncomputable def rs_b569 : e2_Rs := [((9, 0, 0), q_b569_0)]
noncomputable def s_b569 : e2_Sm := (229, as_b569, E_b569, f_b569, rs_b569)
noncomputable def S_b569 : List e2_Sm := []
noncomputable def I_b569 : List e2_In := [(215, 2, e2x_215), (216, 1, e2x_216), (217, 1, e2x_217), (225, 5, e2x_225), (226, 3, e2x_226), (227, 2, e2x_227), (228, 3, e2x_228)]
set_option maxRecDepth 1000000 in
theorem co_b569 : e2_okSB E_b569.length as_b569 f_b569 rs_b569 = true := by decide +kernel
def al_b569_0 : List ev_V := [(2, 83, 0), (0, 4, 0), (11, 2147483648, 2147483656), (11, 0, 4294967295), (11, 2147483684, 2147483692), (1, 2, 4294967296), (9, 0, 0), (9, 0, 0)]
def E_b569_0 : e2_E := [(2147483648, 2147583648, 0, 0), (2147483648, 2147483656, 1, 0), (2147483648, 2147483656, 2, 0)]
noncomputable def h_b569_0 : ev_H := (bn3596 : e2_Q8)
noncomputable def cl_b569_e : List (Nat × e2_S) := [(28, e2_cutL (al_b569_0.set 5 (11, 2147483648, 2147483656)) 2 (E_b569_0.take 2) h_b569_0)]
set_option maxRecDepth 1000000 in
theorem ck_b569_e : e2_run (e2_cal S_b569 I_b569 4000 2) (e2_fin rs_b569) e2x_229 (e2_bpL cl_b569_e) (e2_cutA cl_b569_e) 4000 (e2_seek e2x_229 0) (e2_al 8 as_b569) [] E_b569 f_b569 = true := by decide +kernel
noncomputable def cl_b569_0 : List (Nat × e2_S) := [(28, e2_cutL (al_b569_0.set 5 (13, 10, 2147483656)) 2 (E_b569_0.take 2) h_b569_0)]
set_option maxRecDepth 1000000 in
theorem ck_b569_0 : e2_runM (e2_cal S_b569 I_b569 4000 2) (e2_fin rs_b569) e2x_229 (e2_bpL cl_b569_0) (e2_cutA cl_b569_0) 4000 (e2_seek e2x_229 28) al_b569_0 [] E_b569_0 h_b569_0 = true := by decide +kernel
set_option maxRecDepth 1000000 in
theorem ci_b569_0 : e2_idl 2 (al_b569_0.set 5 (9, 0, 0)) = true := by decide +kernel
set_option maxRecDepth 1000000 in
theorem cj_b569_0 : e2_idh 2 8 h_b569_0 = true := by decide +kernel
theorem cs_b569 (hen : en_ok) (l : Launch) : e2_smOk l 3 s_b569 := by
  refine e2_conG (H := 0) (n := 2) (C := evd_229) (S := S_b569) (I := I_b569) (fuel := 4000) hen ei_229 e2_fz (e2_fa ein_215 (e2_fa ein_216 (e2_fa ein_217 (e2_fa ein_225 (e2_fa ein_226 (e2_fa ein_227 (e2_fa ein_228 e2_fz))))))) (by decide) co_b569 fun M d _ hC hcall p e R s m args below meth c Q D cA A ads r0 ha hl0 => ?_
  have L_0 : e2_gdM M p l e R s m args below meth c Q D cA A ads r0 28 al_b569_0 [] E_b569_0 h_b569_0 := by
    refine e2_indL (u := 2) (j := 5) (lo := 2147483648) (hi := 2147483656) (b := 2) (dd := 0) hl0 (by decide) rfl rfl (Or.inr ⟨rfl, rfl⟩) rfl ci_b569_0 cj_b569_0 ?_
    intro r_0 k_0 hk_0 hp_0 hs_0 hn_0
    have hl_0 : r_0.length ≤ 3 := hs_0.len rfl
    have ha_0 := ha.ext hp_0
    exact e2_fromM hen ha_0 hcall (e2_cutA_ok (e2_fa (fun al st E h hc => hn_0 al st E h hc) e2_fz)) (hC [28]) (X := e2x_229) ex2_229 28 ck_b569_0
  have EN_0 := e2_entL (u := 2) (j := 5) (lo := 2147483648) (hi := 2147483656) hl0 rfl rfl rfl ci_b569_0 cj_b569_0 L_0
  exact e2_from hen ha hcall (e2_cutA_ok (e2_fa (fun al st E h hc => EN_0 al st E h hc) e2_fz)) (hC [28]) (X := e2x_229) ex2_229 0 ck_b569_e
/-! b570 X10_layFrom -/
def as_b570 : List ev_V := [(2, 83, 0), (0, 3, 0), (11, 2147483648, 2147483656), (11, 0, 4294967295)]
def E_b570 : e2_E := [(2147483648, 2147583648, 0, 0), (2147483648, 2147483656, 1, 0)]
noncomputable def f_b570 : ev_H := (bn3596 : e2_Q8)
noncomputable def q_b570_0 : ev_H := (bn3596 : e2_Q8)
noncomputable def rs_b570 : e2_Rs := [((9, 0, 0), q_b570_0)]
noncomputable def s_b570 : e2_Sm := (229, as_b570, E_b570, f_b570, rs_b570)
noncomputable def S_b570 : List e2_Sm := []
noncomputable def I_b570 : List e2_In := [(215, 2, e2x_215), (216, 1, e2x_216), (217, 1, e2x_217), (225, 5, e2x_225), (226, 3, e2x_226), (227, 2, e2x_227), (228, 3, e2x_228)]
set_option maxRecDepth 1000000 in
theorem co_b570 : e2_okSB E_b570.length as_b570 f_b570 rs_b570 = true := by decide +kernel
def al_b570_0 : List ev_V := [(2, 83, 0), (0, 3, 0), (11, 2147483648, 2147483656), (11, 0, 4294967295), (11, 2147483675, 2147483683), (1, 2, 4294967296), (9, 0, 0), (9, 0, 0)]
def E_b570_0 : e2_E := [(2147483648, 2147583648, 0, 0), (2147483648, 2147483656, 1, 0), (2147483648, 2147483656, 2, 0)]
noncomputable def h_b570_0 : ev_H := (bn3596 : e2_Q8)
noncomputable def cl_b570_e : List (Nat × e2_S) := [(28, e2_cutL (al_b570_0.set 5 (11, 2147483648, 2147483656)) 2 (E_b570_0.take 2) h_b570_0)]
set_option maxRecDepth 1000000 in
theorem ck_b570_e : e2_run (e2_cal S_b570 I_b570 4000 2) (e2_fin rs_b570) e2x_229 (e2_bpL cl_b570_e) (e2_cutA cl_b570_e) 4000 (e2_seek e2x_229 0) (e2_al 8 as_b570) [] E_b570 f_b570 = true := by decide +kernel
noncomputable def cl_b570_0 : List (Nat × e2_S) := [(28, e2_cutL (al_b570_0.set 5 (13, 10, 2147483656)) 2 (E_b570_0.take 2) h_b570_0)]
set_option maxRecDepth 1000000 in
theorem ck_b570_0 : e2_runM (e2_cal S_b570 I_b570 4000 2) (e2_fin rs_b570) e2x_229 (e2_bpL cl_b570_0) (e2_cutA cl_b570_0) 4000 (e2_seek e2x_229 28) al_b570_0 [] E_b570_0 h_b570_0 = true := by decide +kernel
set_option maxRecDepth 1000000 in
theorem ci_b570_0 : e2_idl 2 (al_b570_0.set 5 (9, 0, 0)) = true := by decide +kernel
set_option maxRecDepth 1000000 in
theorem cj_b570_0 : e2_idh 2 8 h_b570_0 = true := by decide +kernel
theorem cs_b570 (hen : en_ok) (l : Launch) : e2_smOk l 3 s_b570 := by
  refine e2_conG (H := 0) (n := 2) (C := evd_229) (S := S_b570) (I := I_b570) (fuel := 4000) hen ei_229 e2_fz (e2_fa ein_215 (e2_fa ein_216 (e2_fa ein_217 (e2_fa ein_225 (e2_fa ein_226 (e2_fa ein_227 (e2_fa ein_228 e2_fz))))))) (by decide) co_b570 fun M d _ hC hcall p e R s m args below meth c Q D cA A ads r0 ha hl0 => ?_
  have L_0 : e2_gdM M p l e R s m args below meth c Q D cA A ads r0 28 al_b570_0 [] E_b570_0 h_b570_0 := by
    refine e2_indL (u := 2) (j := 5) (lo := 2147483648) (hi := 2147483656) (b := 2) (dd := 0) hl0 (by decide) rfl rfl (Or.inr ⟨rfl, rfl⟩) rfl ci_b570_0 cj_b570_0 ?_
    intro r_0 k_0 hk_0 hp_0 hs_0 hn_0
    have hl_0 : r_0.length ≤ 3 := hs_0.len rfl
    have ha_0 := ha.ext hp_0
    exact e2_fromM hen ha_0 hcall (e2_cutA_ok (e2_fa (fun al st E h hc => hn_0 al st E h hc) e2_fz)) (hC [28]) (X := e2x_229) ex2_229 28 ck_b570_0
  have EN_0 := e2_entL (u := 2) (j := 5) (lo := 2147483648) (hi := 2147483656) hl0 rfl rfl rfl ci_b570_0 cj_b570_0 L_0
  exact e2_from hen ha hcall (e2_cutA_ok (e2_fa (fun al st E h hc => EN_0 al st E h hc) e2_fz)) (hC [28]) (X := e2x_229) ex2_229 0 ck_b570_e
/-! b571 X10_layFrom -/
def as_b571 : List ev_V := [(2, 83, 0), (0, 2, 0), (11, 2147483648, 2147483656), (11, 0, 4294967295)]
def E_b571 : e2_E := [(2147483648, 2147583648, 0, 0), (2147483648, 2147483656, 1, 0)]
noncomputable def f_b571 : ev_H := (bn3596 : e2_Q8)
noncomputable def q_b571_0 : ev_H := (bn3596 : e2_Q8)
noncomputable def rs_b571 : e2_Rs := [((9, 0, 0), q_b571_0)]
noncomputable def s_b571 : e2_Sm := (229, as_b571, E_b571, f_b571, rs_b571)
noncomputable def S_b571 : List e2_Sm := []
noncomputable def I_b571 : List e2_In := [(215, 2, e2x_215), (216, 1, e2x_216), (217, 1, e2x_217), (225, 5, e2x_225), (226, 3, e2x_226), (227, 2, e2x_227), (228, 3, e2x_228)]
set_option maxRecDepth 1000000 in
theorem co_b571 : e2_okSB E_b571.length as_b571 f_b571 rs_b571 = true := by decide +kernel
def al_b571_0 : List ev_V := [(2, 83, 0), (0, 2, 0), (11, 2147483648, 2147483656), (11, 0, 4294967295), (11, 2147483666, 2147483674), (1, 2, 4294967296), (9, 0, 0), (9, 0, 0)]
def E_b571_0 : e2_E := [(2147483648, 2147583648, 0, 0), (2147483648, 2147483656, 1, 0), (2147483648, 2147483656, 2, 0)]
noncomputable def h_b571_0 : ev_H := (bn3596 : e2_Q8)
noncomputable def cl_b571_e : List (Nat × e2_S) := [(28, e2_cutL (al_b571_0.set 5 (11, 2147483648, 2147483656)) 2 (E_b571_0.take 2) h_b571_0)]
set_option maxRecDepth 1000000 in
theorem ck_b571_e : e2_run (e2_cal S_b571 I_b571 4000 2) (e2_fin rs_b571) e2x_229 (e2_bpL cl_b571_e) (e2_cutA cl_b571_e) 4000 (e2_seek e2x_229 0) (e2_al 8 as_b571) [] E_b571 f_b571 = true := by decide +kernel
noncomputable def cl_b571_0 : List (Nat × e2_S) := [(28, e2_cutL (al_b571_0.set 5 (13, 10, 2147483656)) 2 (E_b571_0.take 2) h_b571_0)]
set_option maxRecDepth 1000000 in
theorem ck_b571_0 : e2_runM (e2_cal S_b571 I_b571 4000 2) (e2_fin rs_b571) e2x_229 (e2_bpL cl_b571_0) (e2_cutA cl_b571_0) 4000 (e2_seek e2x_229 28) al_b571_0 [] E_b571_0 h_b571_0 = true := by decide +kernel
set_option maxRecDepth 1000000 in
theorem ci_b571_0 : e2_idl 2 (al_b571_0.set 5 (9, 0, 0)) = true := by decide +kernel
set_option maxRecDepth 1000000 in
theorem cj_b571_0 : e2_idh 2 8 h_b571_0 = true := by decide +kernel
theorem cs_b571 (hen : en_ok) (l : Launch) : e2_smOk l 3 s_b571 := by
  refine e2_conG (H := 0) (n := 2) (C := evd_229) (S := S_b571) (I := I_b571) (fuel := 4000) hen ei_229 e2_fz (e2_fa ein_215 (e2_fa ein_216 (e2_fa ein_217 (e2_fa ein_225 (e2_fa ein_226 (e2_fa ein_227 (e2_fa ein_228 e2_fz))))))) (by decide) co_b571 fun M d _ hC hcall p e R s m args below meth c Q D cA A ads r0 ha hl0 => ?_
  have L_0 : e2_gdM M p l e R s m args below meth c Q D cA A ads r0 28 al_b571_0 [] E_b571_0 h_b571_0 := by
    refine e2_indL (u := 2) (j := 5) (lo := 2147483648) (hi := 2147483656) (b := 2) (dd := 0) hl0 (by decide) rfl rfl (Or.inr ⟨rfl, rfl⟩) rfl ci_b571_0 cj_b571_0 ?_
    intro r_0 k_0 hk_0 hp_0 hs_0 hn_0
    have hl_0 : r_0.length ≤ 3 := hs_0.len rfl
    have ha_0 := ha.ext hp_0
    exact e2_fromM hen ha_0 hcall (e2_cutA_ok (e2_fa (fun al st E h hc => hn_0 al st E h hc) e2_fz)) (hC [28]) (X := e2x_229) ex2_229 28 ck_b571_0
  have EN_0 := e2_entL (u := 2) (j := 5) (lo := 2147483648) (hi := 2147483656) hl0 rfl rfl rfl ci_b571_0 cj_b571_0 L_0
  exact e2_from hen ha hcall (e2_cutA_ok (e2_fa (fun al st E h hc => EN_0 al st E h hc) e2_fz)) (hC [28]) (X := e2x_229) ex2_229 0 ck_b571_e
/-! b572 X10_layFrom -/
def as_b572 : List ev_V := [(2, 83, 0), (0, 1, 0), (11, 2147483648, 2147483656), (11, 0, 4294967295)]
def E_b572 : e2_E := [(2147483648, 2147583648, 0, 0), (2147483648, 2147483656, 1, 0)]
noncomputable def f_b572 : ev_H := (bn3596 : e2_Q8)
noncomputable def q_b572_0 : ev_H := (bn3596 : e2_Q8)
noncomputable def rs_b572 : e2_Rs := [((9, 0, 0), q_b572_0)]
noncomputable def s_b572 : e2_Sm := (229, as_b572, E_b572, f_b572, rs_b572)
noncomputable def S_b572 : List e2_Sm := []
noncomputable def I_b572 : List e2_In := [(215, 2, e2x_215), (216, 1, e2x_216), (217, 1, e2x_217), (225, 5, e2x_225), (226, 3, e2x_226), (227, 2, e2x_227), (228, 3, e2x_228)]
set_option maxRecDepth 1000000 in
theorem co_b572 : e2_okSB E_b572.length as_b572 f_b572 rs_b572 = true := by decide +kernel
def al_b572_0 : List ev_V := [(2, 83, 0), (0, 1, 0), (11, 2147483648, 2147483656), (11, 0, 4294967295), (11, 2147483657, 2147483665), (1, 2, 4294967296), (9, 0, 0), (9, 0, 0)]
def E_b572_0 : e2_E := [(2147483648, 2147583648, 0, 0), (2147483648, 2147483656, 1, 0), (2147483648, 2147483656, 2, 0)]
noncomputable def h_b572_0 : ev_H := (bn3596 : e2_Q8)
noncomputable def cl_b572_e : List (Nat × e2_S) := [(28, e2_cutL (al_b572_0.set 5 (11, 2147483648, 2147483656)) 2 (E_b572_0.take 2) h_b572_0)]
set_option maxRecDepth 1000000 in
theorem ck_b572_e : e2_run (e2_cal S_b572 I_b572 4000 2) (e2_fin rs_b572) e2x_229 (e2_bpL cl_b572_e) (e2_cutA cl_b572_e) 4000 (e2_seek e2x_229 0) (e2_al 8 as_b572) [] E_b572 f_b572 = true := by decide +kernel
noncomputable def cl_b572_0 : List (Nat × e2_S) := [(28, e2_cutL (al_b572_0.set 5 (13, 10, 2147483656)) 2 (E_b572_0.take 2) h_b572_0)]
set_option maxRecDepth 1000000 in
theorem ck_b572_0 : e2_runM (e2_cal S_b572 I_b572 4000 2) (e2_fin rs_b572) e2x_229 (e2_bpL cl_b572_0) (e2_cutA cl_b572_0) 4000 (e2_seek e2x_229 28) al_b572_0 [] E_b572_0 h_b572_0 = true := by decide +kernel
set_option maxRecDepth 1000000 in
theorem ci_b572_0 : e2_idl 2 (al_b572_0.set 5 (9, 0, 0)) = true := by decide +kernel
set_option maxRecDepth 1000000 in
theorem cj_b572_0 : e2_idh 2 8 h_b572_0 = true := by decide +kernel
theorem cs_b572 (hen : en_ok) (l : Launch) : e2_smOk l 3 s_b572 := by
  refine e2_conG (H := 0) (n := 2) (C := evd_229) (S := S_b572) (I := I_b572) (fuel := 4000) hen ei_229 e2_fz (e2_fa ein_215 (e2_fa ein_216 (e2_fa ein_217 (e2_fa ein_225 (e2_fa ein_226 (e2_fa ein_227 (e2_fa ein_228 e2_fz))))))) (by decide) co_b572 fun M d _ hC hcall p e R s m args below meth c Q D cA A ads r0 ha hl0 => ?_
  have L_0 : e2_gdM M p l e R s m args below meth c Q D cA A ads r0 28 al_b572_0 [] E_b572_0 h_b572_0 := by
    refine e2_indL (u := 2) (j := 5) (lo := 2147483648) (hi := 2147483656) (b := 2) (dd := 0) hl0 (by decide) rfl rfl (Or.inr ⟨rfl, rfl⟩) rfl ci_b572_0 cj_b572_0 ?_
    intro r_0 k_0 hk_0 hp_0 hs_0 hn_0
    have hl_0 : r_0.length ≤ 3 := hs_0.len rfl
    have ha_0 := ha.ext hp_0
    exact e2_fromM hen ha_0 hcall (e2_cutA_ok (e2_fa (fun al st E h hc => hn_0 al st E h hc) e2_fz)) (hC [28]) (X := e2x_229) ex2_229 28 ck_b572_0
  have EN_0 := e2_entL (u := 2) (j := 5) (lo := 2147483648) (hi := 2147483656) hl0 rfl rfl rfl ci_b572_0 cj_b572_0 L_0
  exact e2_from hen ha hcall (e2_cutA_ok (e2_fa (fun al st E h hc => EN_0 al st E h hc) e2_fz)) (hC [28]) (X := e2x_229) ex2_229 0 ck_b572_e
/-! b573 X10_layFrom -/
def as_b573 : List ev_V := [(2, 83, 0), (0, 0, 0), (11, 2147483648, 2147483656), (11, 0, 4294967295)]
def E_b573 : e2_E := [(2147483648, 2147583648, 0, 0), (2147483648, 2147483656, 1, 0)]
noncomputable def f_b573 : ev_H := (bn3596 : e2_Q8)
noncomputable def q_b573_0 : ev_H := (bn3596 : e2_Q8)
noncomputable def rs_b573 : e2_Rs := [((9, 0, 0), q_b573_0)]
noncomputable def s_b573 : e2_Sm := (229, as_b573, E_b573, f_b573, rs_b573)
noncomputable def S_b573 : List e2_Sm := []
noncomputable def I_b573 : List e2_In := [(215, 2, e2x_215), (216, 1, e2x_216), (217, 1, e2x_217), (225, 5, e2x_225), (226, 3, e2x_226), (227, 2, e2x_227), (228, 3, e2x_228)]
set_option maxRecDepth 1000000 in
theorem co_b573 : e2_okSB E_b573.length as_b573 f_b573 rs_b573 = true := by decide +kernel
def al_b573_0 : List ev_V := [(2, 83, 0), (0, 0, 0), (11, 2147483648, 2147483656), (11, 0, 4294967295), (11, 2147483648, 2147483656), (1, 2, 4294967296), (9, 0, 0), (9, 0, 0)]
def E_b573_0 : e2_E := [(2147483648, 2147583648, 0, 0), (2147483648, 2147483656, 1, 0), (2147483648, 2147483656, 2, 0)]
noncomputable def h_b573_0 : ev_H := (bn3596 : e2_Q8)
noncomputable def cl_b573_e : List (Nat × e2_S) := [(28, e2_cutL (al_b573_0.set 5 (11, 2147483648, 2147483656)) 2 (E_b573_0.take 2) h_b573_0)]
set_option maxRecDepth 1000000 in
theorem ck_b573_e : e2_run (e2_cal S_b573 I_b573 4000 2) (e2_fin rs_b573) e2x_229 (e2_bpL cl_b573_e) (e2_cutA cl_b573_e) 4000 (e2_seek e2x_229 0) (e2_al 8 as_b573) [] E_b573 f_b573 = true := by decide +kernel
noncomputable def cl_b573_0 : List (Nat × e2_S) := [(28, e2_cutL (al_b573_0.set 5 (13, 10, 2147483656)) 2 (E_b573_0.take 2) h_b573_0)]
set_option maxRecDepth 1000000 in
theorem ck_b573_0 : e2_runM (e2_cal S_b573 I_b573 4000 2) (e2_fin rs_b573) e2x_229 (e2_bpL cl_b573_0) (e2_cutA cl_b573_0) 4000 (e2_seek e2x_229 28) al_b573_0 [] E_b573_0 h_b573_0 = true := by decide +kernel
set_option maxRecDepth 1000000 in
theorem ci_b573_0 : e2_idl 2 (al_b573_0.set 5 (9, 0, 0)) = true := by decide +kernel
set_option maxRecDepth 1000000 in
theorem cj_b573_0 : e2_idh 2 8 h_b573_0 = true := by decide +kernel
theorem cs_b573 (hen : en_ok) (l : Launch) : e2_smOk l 3 s_b573 := by
  refine e2_conG (H := 0) (n := 2) (C := evd_229) (S := S_b573) (I := I_b573) (fuel := 4000) hen ei_229 e2_fz (e2_fa ein_215 (e2_fa ein_216 (e2_fa ein_217 (e2_fa ein_225 (e2_fa ein_226 (e2_fa ein_227 (e2_fa ein_228 e2_fz))))))) (by decide) co_b573 fun M d _ hC hcall p e R s m args below meth c Q D cA A ads r0 ha hl0 => ?_
  have L_0 : e2_gdM M p l e R s m args below meth c Q D cA A ads r0 28 al_b573_0 [] E_b573_0 h_b573_0 := by
    refine e2_indL (u := 2) (j := 5) (lo := 2147483648) (hi := 2147483656) (b := 2) (dd := 0) hl0 (by decide) rfl rfl (Or.inr ⟨rfl, rfl⟩) rfl ci_b573_0 cj_b573_0 ?_
    intro r_0 k_0 hk_0 hp_0 hs_0 hn_0
    have hl_0 : r_0.length ≤ 3 := hs_0.len rfl
    have ha_0 := ha.ext hp_0
    exact e2_fromM hen ha_0 hcall (e2_cutA_ok (e2_fa (fun al st E h hc => hn_0 al st E h hc) e2_fz)) (hC [28]) (X := e2x_229) ex2_229 28 ck_b573_0
  have EN_0 := e2_entL (u := 2) (j := 5) (lo := 2147483648) (hi := 2147483656) hl0 rfl rfl rfl ci_b573_0 cj_b573_0 L_0
  exact e2_from hen ha hcall (e2_cutA_ok (e2_fa (fun al st E h hc => EN_0 al st E h hc) e2_fz)) (hC [28]) (X := e2x_229) ex2_229 0 ck_b573_e
/-! b574 X10_nextAt -/
def as_b574 : List ev_V := [(2, 83, 0), (0, 0, 0), (0, 8, 0), (11, 0, 4294967295)]
def E_b574 : e2_E := [(2147483648, 2147583648, 0, 0), (2147483648, 2147483656, 1, 0), (2147483648, 2147483668, 2, 0)]
def bn3597 : e2_Q6 := (bn3580, bn338)
def bn3598 : e2_Q7 := (bn3597, bn3587)
def bc259 : ev_C := (10, [(0, 0, 0), (2, 88, 0), (2, 115, 0), (2, 114, 0), (2, 86, 0), (2, 112, 0), (11, 2147483648, 2147483688), (2, 118, 0), (2, 120, 0), (2, 131, 0), (2, 91, 0), (1, 2, 4294967296), (2, 123, 0), (11, 2147483648, 2147483649), (11, 2147483648, 2147485248), (2, 87, 0), (2, 84, 0), (2, 122, 0), (2, 100, 0), (2, 132, 0), (11, 2147483648, 2147483668), (11, 2147483648, 2147485248), (1, 0, 4294967296), (11, 2147483648, 2147483653), (11, 2147483648, 2147485248), (2, 93, 0), (2, 104, 0), (11, 2147483648, 2147483678), (2, 89, 0), (2, 92, 0), (2, 119, 0), (2, 90, 0), (2, 94, 0), (2, 103, 0), (11, 2147483648, 2147483688), (11, 2147483648, 2147549184), (11, 0, 4294967295), (11, 2147483648, 2147485249), (11, 2147483648, 2147483653), (11, 2147483648, 2147483668), (2, 85, 0), (11, 0, 4294967295), (5, 0, 0), (2, 95, 0), (2, 96, 0), (2, 97, 0), (2, 98, 0), (2, 99, 0), (2, 101, 0), (2, 102, 0), (2, 105, 0), (2, 106, 0), (2, 107, 0), (2, 108, 0), (2, 109, 0), (2, 110, 0), (2, 111, 0), (11, 2147483648, 2147484768), (11, 2147482048, 2147483655), (11, 2147483648, 2147483738), (11, 2147483648, 2147483678), (11, 0, 4294967295), (11, 0, 4294967295), (11, 0, 4294967295), (11, 0, 4294967295), (11, 0, 4294967295), (2, 113, 0), (2, 116, 0), (2, 117, 0), (2, 121, 0), (11, 0, 4294967295), (11, 0, 4294967295), (2, 124, 0), (2, 125, 0), (11, 0, 4294967295), (2, 126, 0), (2, 127, 0), (2, 128, 0), (2, 129, 0), (2, 130, 0)])
def bn3599 : e2_Q1 := (bc259, bc3)
def bn3600 : e2_Q2 := (bn196, bn3599)
def bn3601 : e2_Q3 := (bn3600, bn3590)
def bn3602 : e2_Q4 := (bn195, bn3601)
def bn3603 : e2_Q5 := (bn3602, bn365)
def bn3604 : e2_Q6 := (bn3603, bn250)
def bn3605 : e2_Q7 := (bn3589, bn3604)
def bn3606 : e2_Q8 := (bn3598, bn3605)
noncomputable def f_b574 : ev_H := (bn3606 : e2_Q8)
noncomputable def q_b574_0 : ev_H := (bn3606 : e2_Q8)
noncomputable def rs_b574 : e2_Rs := [((12, 9, 2147483647), q_b574_0)]
noncomputable def s_b574 : e2_Sm := (231, as_b574, E_b574, f_b574, rs_b574)
noncomputable def S_b574 : List e2_Sm := []
noncomputable def I_b574 : List e2_In := [(216, 1, e2x_216), (217, 1, e2x_217), (225, 5, e2x_225), (226, 3, e2x_226), (227, 2, e2x_227)]
set_option maxRecDepth 1000000 in
theorem co_b574 : e2_okSB E_b574.length as_b574 f_b574 rs_b574 = true := by decide +kernel
def al_b574_0 : List ev_V := [(2, 83, 0), (0, 0, 0), (0, 8, 0), (11, 0, 4294967295), (1, 3, 4294967296), (9, 0, 0)]
def E_b574_0 : e2_E := [(2147483648, 2147583648, 0, 0), (2147483648, 2147483656, 1, 0), (2147483648, 2147483668, 2, 0), (2147483648, 2147483656, 3, 0)]
noncomputable def h_b574_0 : ev_H := (bn3606 : e2_Q8)
noncomputable def cl_b574_e : List (Nat × e2_S) := [(3, e2_cutL (al_b574_0.set 4 (11, 2147483648, 2147483656)) 3 (E_b574_0.take 3) h_b574_0)]
set_option maxRecDepth 1000000 in
theorem ck_b574_e : e2_run (e2_cal S_b574 I_b574 4000 2) (e2_fin rs_b574) e2x_231 (e2_bpL cl_b574_e) (e2_cutA cl_b574_e) 4000 (e2_seek e2x_231 0) (e2_al 6 as_b574) [] E_b574 f_b574 = true := by decide +kernel
noncomputable def cl_b574_0 : List (Nat × e2_S) := [(3, e2_cutL (al_b574_0.set 4 (13, 11, 2147483656)) 3 (E_b574_0.take 3) h_b574_0)]
set_option maxRecDepth 1000000 in
theorem ck_b574_0 : e2_runM (e2_cal S_b574 I_b574 4000 2) (e2_fin rs_b574) e2x_231 (e2_bpL cl_b574_0) (e2_cutA cl_b574_0) 4000 (e2_seek e2x_231 3) al_b574_0 [] E_b574_0 h_b574_0 = true := by decide +kernel
set_option maxRecDepth 1000000 in
theorem ci_b574_0 : e2_idl 3 (al_b574_0.set 4 (9, 0, 0)) = true := by decide +kernel
set_option maxRecDepth 1000000 in
theorem cj_b574_0 : e2_idh 3 8 h_b574_0 = true := by decide +kernel
theorem cs_b574 (hen : en_ok) (l : Launch) : e2_smOk l 3 s_b574 := by
  refine e2_conG (H := 0) (n := 2) (C := evd_231) (S := S_b574) (I := I_b574) (fuel := 4000) hen ei_231 e2_fz (e2_fa ein_216 (e2_fa ein_217 (e2_fa ein_225 (e2_fa ein_226 (e2_fa ein_227 e2_fz))))) (by decide) co_b574 fun M d _ hC hcall p e R s m args below meth c Q D cA A ads r0 ha hl0 => ?_
  have L_0 : e2_gdM M p l e R s m args below meth c Q D cA A ads r0 3 al_b574_0 [] E_b574_0 h_b574_0 := by
    refine e2_indL (u := 3) (j := 4) (lo := 2147483648) (hi := 2147483656) (b := 3) (dd := 0) hl0 (by decide) rfl rfl (Or.inr ⟨rfl, rfl⟩) rfl ci_b574_0 cj_b574_0 ?_
    intro r_0 k_0 hk_0 hp_0 hs_0 hn_0
    have hl_0 : r_0.length ≤ 4 := hs_0.len rfl
    have ha_0 := ha.ext hp_0
    exact e2_fromM hen ha_0 hcall (e2_cutA_ok (e2_fa (fun al st E h hc => hn_0 al st E h hc) e2_fz)) (hC [3]) (X := e2x_231) ex2_231 3 ck_b574_0
  have EN_0 := e2_entL (u := 3) (j := 4) (lo := 2147483648) (hi := 2147483656) hl0 rfl rfl rfl ci_b574_0 cj_b574_0 L_0
  exact e2_from hen ha hcall (e2_cutA_ok (e2_fa (fun al st E h hc => EN_0 al st E h hc) e2_fz)) (hC [3]) (X := e2x_231) ex2_231 0 ck_b574_e
/-! b575 X10_nextAt -/
def as_b575 : List ev_V := [(2, 83, 0), (0, 1, 0), (11, 2147483648, 2147483656), (11, 0, 4294967295)]
def E_b575 : e2_E := [(2147483648, 2147583648, 0, 0), (2147483648, 2147483656, 1, 0), (2147483648, 2147483668, 2, 0)]
def bn3607 : e2_Q8 := (bn3588, bn3605)
noncomputable def f_b575 : ev_H := (bn3607 : e2_Q8)
noncomputable def q_b575_0 : ev_H := (bn3607 : e2_Q8)
noncomputable def rs_b575 : e2_Rs := [((12, 9, 2147483647), q_b575_0)]
noncomputable def s_b575 : e2_Sm := (231, as_b575, E_b575, f_b575, rs_b575)
noncomputable def S_b575 : List e2_Sm := []
noncomputable def I_b575 : List e2_In := [(215, 2, e2x_215), (216, 1, e2x_216), (217, 1, e2x_217), (225, 5, e2x_225), (226, 3, e2x_226), (227, 2, e2x_227)]
set_option maxRecDepth 1000000 in
theorem co_b575 : e2_okSB E_b575.length as_b575 f_b575 rs_b575 = true := by decide +kernel
def al_b575_0 : List ev_V := [(2, 83, 0), (0, 1, 0), (11, 2147483648, 2147483656), (11, 0, 4294967295), (1, 3, 4294967296), (9, 0, 0)]
def E_b575_0 : e2_E := [(2147483648, 2147583648, 0, 0), (2147483648, 2147483656, 1, 0), (2147483648, 2147483668, 2, 0), (2147483648, 2147483656, 3, 0)]
noncomputable def h_b575_0 : ev_H := (bn3607 : e2_Q8)
noncomputable def cl_b575_e : List (Nat × e2_S) := [(3, e2_cutL (al_b575_0.set 4 (11, 2147483648, 2147483656)) 3 (E_b575_0.take 3) h_b575_0)]
set_option maxRecDepth 1000000 in
theorem ck_b575_e : e2_run (e2_cal S_b575 I_b575 4000 2) (e2_fin rs_b575) e2x_231 (e2_bpL cl_b575_e) (e2_cutA cl_b575_e) 4000 (e2_seek e2x_231 0) (e2_al 6 as_b575) [] E_b575 f_b575 = true := by decide +kernel
noncomputable def cl_b575_0 : List (Nat × e2_S) := [(3, e2_cutL (al_b575_0.set 4 (13, 11, 2147483656)) 3 (E_b575_0.take 3) h_b575_0)]
set_option maxRecDepth 1000000 in
theorem ck_b575_0 : e2_runM (e2_cal S_b575 I_b575 4000 2) (e2_fin rs_b575) e2x_231 (e2_bpL cl_b575_0) (e2_cutA cl_b575_0) 4000 (e2_seek e2x_231 3) al_b575_0 [] E_b575_0 h_b575_0 = true := by decide +kernel
set_option maxRecDepth 1000000 in
theorem ci_b575_0 : e2_idl 3 (al_b575_0.set 4 (9, 0, 0)) = true := by decide +kernel
set_option maxRecDepth 1000000 in
theorem cj_b575_0 : e2_idh 3 8 h_b575_0 = true := by decide +kernel
theorem cs_b575 (hen : en_ok) (l : Launch) : e2_smOk l 3 s_b575 := by
  refine e2_conG (H := 0) (n := 2) (C := evd_231) (S := S_b575) (I := I_b575) (fuel := 4000) hen ei_231 e2_fz (e2_fa ein_215 (e2_fa ein_216 (e2_fa ein_217 (e2_fa ein_225 (e2_fa ein_226 (e2_fa ein_227 e2_fz)))))) (by decide) co_b575 fun M d _ hC hcall p e R s m args below meth c Q D cA A ads r0 ha hl0 => ?_
  have L_0 : e2_gdM M p l e R s m args below meth c Q D cA A ads r0 3 al_b575_0 [] E_b575_0 h_b575_0 := by
    refine e2_indL (u := 3) (j := 4) (lo := 2147483648) (hi := 2147483656) (b := 3) (dd := 0) hl0 (by decide) rfl rfl (Or.inr ⟨rfl, rfl⟩) rfl ci_b575_0 cj_b575_0 ?_
    intro r_0 k_0 hk_0 hp_0 hs_0 hn_0
    have hl_0 : r_0.length ≤ 4 := hs_0.len rfl
    have ha_0 := ha.ext hp_0
    exact e2_fromM hen ha_0 hcall (e2_cutA_ok (e2_fa (fun al st E h hc => hn_0 al st E h hc) e2_fz)) (hC [3]) (X := e2x_231) ex2_231 3 ck_b575_0
  have EN_0 := e2_entL (u := 3) (j := 4) (lo := 2147483648) (hi := 2147483656) hl0 rfl rfl rfl ci_b575_0 cj_b575_0 L_0
  exact e2_from hen ha hcall (e2_cutA_ok (e2_fa (fun al st E h hc => EN_0 al st E h hc) e2_fz)) (hC [3]) (X := e2x_231) ex2_231 0 ck_b575_e
/-! b576 X10_nextAt -/
def as_b576 : List ev_V := [(2, 83, 0), (0, 10, 0), (11, 2147483648, 2147483656), (11, 0, 4294967295)]
def E_b576 : e2_E := [(2147483648, 2147583648, 0, 0), (2147483648, 2147483656, 1, 0), (2147483648, 2147483668, 2, 0)]
noncomputable def f_b576 : ev_H := (bn3607 : e2_Q8)
noncomputable def q_b576_0 : ev_H := (bn3607 : e2_Q8)
noncomputable def rs_b576 : e2_Rs := [((12, 9, 2147483647), q_b576_0)]
noncomputable def s_b576 : e2_Sm := (231, as_b576, E_b576, f_b576, rs_b576)
noncomputable def S_b576 : List e2_Sm := []
noncomputable def I_b576 : List e2_In := [(215, 2, e2x_215), (216, 1, e2x_216), (217, 1, e2x_217), (225, 5, e2x_225), (226, 3, e2x_226), (227, 2, e2x_227)]
set_option maxRecDepth 1000000 in
theorem co_b576 : e2_okSB E_b576.length as_b576 f_b576 rs_b576 = true := by decide +kernel
def al_b576_0 : List ev_V := [(2, 83, 0), (0, 10, 0), (11, 2147483648, 2147483656), (11, 0, 4294967295), (1, 3, 4294967296), (9, 0, 0)]
def E_b576_0 : e2_E := [(2147483648, 2147583648, 0, 0), (2147483648, 2147483656, 1, 0), (2147483648, 2147483668, 2, 0), (2147483648, 2147483656, 3, 0)]
noncomputable def h_b576_0 : ev_H := (bn3607 : e2_Q8)
noncomputable def cl_b576_e : List (Nat × e2_S) := [(3, e2_cutL (al_b576_0.set 4 (11, 2147483648, 2147483656)) 3 (E_b576_0.take 3) h_b576_0)]
set_option maxRecDepth 1000000 in
theorem ck_b576_e : e2_run (e2_cal S_b576 I_b576 4000 2) (e2_fin rs_b576) e2x_231 (e2_bpL cl_b576_e) (e2_cutA cl_b576_e) 4000 (e2_seek e2x_231 0) (e2_al 6 as_b576) [] E_b576 f_b576 = true := by decide +kernel
noncomputable def cl_b576_0 : List (Nat × e2_S) := [(3, e2_cutL (al_b576_0.set 4 (13, 11, 2147483656)) 3 (E_b576_0.take 3) h_b576_0)]
set_option maxRecDepth 1000000 in
theorem ck_b576_0 : e2_runM (e2_cal S_b576 I_b576 4000 2) (e2_fin rs_b576) e2x_231 (e2_bpL cl_b576_0) (e2_cutA cl_b576_0) 4000 (e2_seek e2x_231 3) al_b576_0 [] E_b576_0 h_b576_0 = true := by decide +kernel
set_option maxRecDepth 1000000 in
theorem ci_b576_0 : e2_idl 3 (al_b576_0.set 4 (9, 0, 0)) = true := by decide +kernel
set_option maxRecDepth 1000000 in
theorem cj_b576_0 : e2_idh 3 8 h_b576_0 = true := by decide +kernel
theorem cs_b576 (hen : en_ok) (l : Launch) : e2_smOk l 3 s_b576 := by
  refine e2_conG (H := 0) (n := 2) (C := evd_231) (S := S_b576) (I := I_b576) (fuel := 4000) hen ei_231 e2_fz (e2_fa ein_215 (e2_fa ein_216 (e2_fa ein_217 (e2_fa ein_225 (e2_fa ein_226 (e2_fa ein_227 e2_fz)))))) (by decide) co_b576 fun M d _ hC hcall p e R s m args below meth c Q D cA A ads r0 ha hl0 => ?_
  have L_0 : e2_gdM M p l e R s m args below meth c Q D cA A ads r0 3 al_b576_0 [] E_b576_0 h_b576_0 := by
    refine e2_indL (u := 3) (j := 4) (lo := 2147483648) (hi := 2147483656) (b := 3) (dd := 0) hl0 (by decide) rfl rfl (Or.inr ⟨rfl, rfl⟩) rfl ci_b576_0 cj_b576_0 ?_
    intro r_0 k_0 hk_0 hp_0 hs_0 hn_0
    have hl_0 : r_0.length ≤ 4 := hs_0.len rfl
    have ha_0 := ha.ext hp_0
    exact e2_fromM hen ha_0 hcall (e2_cutA_ok (e2_fa (fun al st E h hc => hn_0 al st E h hc) e2_fz)) (hC [3]) (X := e2x_231) ex2_231 3 ck_b576_0
  have EN_0 := e2_entL (u := 3) (j := 4) (lo := 2147483648) (hi := 2147483656) hl0 rfl rfl rfl ci_b576_0 cj_b576_0 L_0
  exact e2_from hen ha hcall (e2_cutA_ok (e2_fa (fun al st E h hc => EN_0 al st E h hc) e2_fz)) (hC [3]) (X := e2x_231) ex2_231 0 ck_b576_e
/-! b577 X10_nextAt -/
def as_b577 : List ev_V := [(2, 83, 0), (0, 11, 0), (11, 2147483648, 2147483656), (11, 0, 4294967295)]
def E_b577 : e2_E := [(2147483648, 2147583648, 0, 0), (2147483648, 2147483656, 1, 0), (2147483648, 2147483668, 2, 0)]
noncomputable def f_b577 : ev_H := (bn3607 : e2_Q8)
noncomputable def q_b577_0 : ev_H := (bn3607 : e2_Q8)
noncomputable def rs_b577 : e2_Rs := [((12, 9, 2147483647), q_b577_0)]
noncomputable def s_b577 : e2_Sm := (231, as_b577, E_b577, f_b577, rs_b577)
noncomputable def S_b577 : List e2_Sm := []
noncomputable def I_b577 : List e2_In := [(215, 2, e2x_215), (216, 1, e2x_216), (217, 1, e2x_217), (225, 5, e2x_225), (226, 3, e2x_226), (227, 2, e2x_227)]
set_option maxRecDepth 1000000 in
theorem co_b577 : e2_okSB E_b577.length as_b577 f_b577 rs_b577 = true := by decide +kernel
def al_b577_0 : List ev_V := [(2, 83, 0), (0, 11, 0), (11, 2147483648, 2147483656), (11, 0, 4294967295), (1, 3, 4294967296), (9, 0, 0)]
def E_b577_0 : e2_E := [(2147483648, 2147583648, 0, 0), (2147483648, 2147483656, 1, 0), (2147483648, 2147483668, 2, 0), (2147483648, 2147483656, 3, 0)]
noncomputable def h_b577_0 : ev_H := (bn3607 : e2_Q8)
noncomputable def cl_b577_e : List (Nat × e2_S) := [(3, e2_cutL (al_b577_0.set 4 (11, 2147483648, 2147483656)) 3 (E_b577_0.take 3) h_b577_0)]
set_option maxRecDepth 1000000 in
theorem ck_b577_e : e2_run (e2_cal S_b577 I_b577 4000 2) (e2_fin rs_b577) e2x_231 (e2_bpL cl_b577_e) (e2_cutA cl_b577_e) 4000 (e2_seek e2x_231 0) (e2_al 6 as_b577) [] E_b577 f_b577 = true := by decide +kernel
noncomputable def cl_b577_0 : List (Nat × e2_S) := [(3, e2_cutL (al_b577_0.set 4 (13, 11, 2147483656)) 3 (E_b577_0.take 3) h_b577_0)]
set_option maxRecDepth 1000000 in
theorem ck_b577_0 : e2_runM (e2_cal S_b577 I_b577 4000 2) (e2_fin rs_b577) e2x_231 (e2_bpL cl_b577_0) (e2_cutA cl_b577_0) 4000 (e2_seek e2x_231 3) al_b577_0 [] E_b577_0 h_b577_0 = true := by decide +kernel
set_option maxRecDepth 1000000 in
theorem ci_b577_0 : e2_idl 3 (al_b577_0.set 4 (9, 0, 0)) = true := by decide +kernel
set_option maxRecDepth 1000000 in
theorem cj_b577_0 : e2_idh 3 8 h_b577_0 = true := by decide +kernel
theorem cs_b577 (hen : en_ok) (l : Launch) : e2_smOk l 3 s_b577 := by
  refine e2_conG (H := 0) (n := 2) (C := evd_231) (S := S_b577) (I := I_b577) (fuel := 4000) hen ei_231 e2_fz (e2_fa ein_215 (e2_fa ein_216 (e2_fa ein_217 (e2_fa ein_225 (e2_fa ein_226 (e2_fa ein_227 e2_fz)))))) (by decide) co_b577 fun M d _ hC hcall p e R s m args below meth c Q D cA A ads r0 ha hl0 => ?_
  have L_0 : e2_gdM M p l e R s m args below meth c Q D cA A ads r0 3 al_b577_0 [] E_b577_0 h_b577_0 := by
    refine e2_indL (u := 3) (j := 4) (lo := 2147483648) (hi := 2147483656) (b := 3) (dd := 0) hl0 (by decide) rfl rfl (Or.inr ⟨rfl, rfl⟩) rfl ci_b577_0 cj_b577_0 ?_
    intro r_0 k_0 hk_0 hp_0 hs_0 hn_0
    have hl_0 : r_0.length ≤ 4 := hs_0.len rfl
    have ha_0 := ha.ext hp_0
    exact e2_fromM hen ha_0 hcall (e2_cutA_ok (e2_fa (fun al st E h hc => hn_0 al st E h hc) e2_fz)) (hC [3]) (X := e2x_231) ex2_231 3 ck_b577_0
  have EN_0 := e2_entL (u := 3) (j := 4) (lo := 2147483648) (hi := 2147483656) hl0 rfl rfl rfl ci_b577_0 cj_b577_0 L_0
  exact e2_from hen ha hcall (e2_cutA_ok (e2_fa (fun al st E h hc => EN_0 al st E h hc) e2_fz)) (hC [3]) (X := e2x_231) ex2_231 0 ck_b577_e
/-! b578 X10_nextAt -/
def as_b578 : List ev_V := [(2, 83, 0), (0, 12, 0), (11, 2147483648, 2147483656), (11, 0, 4294967295)]
def E_b578 : e2_E := [(2147483648, 2147583648, 0, 0), (2147483648, 2147483656, 1, 0), (2147483648, 2147483668, 2, 0)]
noncomputable def f_b578 : ev_H := (bn3607 : e2_Q8)
noncomputable def q_b578_0 : ev_H := (bn3607 : e2_Q8)
noncomputable def rs_b578 : e2_Rs := [((12, 9, 2147483647), q_b578_0)]
noncomputable def s_b578 : e2_Sm := (231, as_b578, E_b578, f_b578, rs_b578)
noncomputable def S_b578 : List e2_Sm := []
noncomputable def I_b578 : List e2_In := [(215, 2, e2x_215), (216, 1, e2x_216), (217, 1, e2x_217), (225, 5, e2x_225), (226, 3, e2x_226), (227, 2, e2x_227)]
set_option maxRecDepth 1000000 in
theorem co_b578 : e2_okSB E_b578.length as_b578 f_b578 rs_b578 = true := by decide +kernel
def al_b578_0 : List ev_V := [(2, 83, 0), (0, 12, 0), (11, 2147483648, 2147483656), (11, 0, 4294967295), (1, 3, 4294967296), (9, 0, 0)]
def E_b578_0 : e2_E := [(2147483648, 2147583648, 0, 0), (2147483648, 2147483656, 1, 0), (2147483648, 2147483668, 2, 0), (2147483648, 2147483656, 3, 0)]
noncomputable def h_b578_0 : ev_H := (bn3607 : e2_Q8)
noncomputable def cl_b578_e : List (Nat × e2_S) := [(3, e2_cutL (al_b578_0.set 4 (11, 2147483648, 2147483656)) 3 (E_b578_0.take 3) h_b578_0)]
set_option maxRecDepth 1000000 in
theorem ck_b578_e : e2_run (e2_cal S_b578 I_b578 4000 2) (e2_fin rs_b578) e2x_231 (e2_bpL cl_b578_e) (e2_cutA cl_b578_e) 4000 (e2_seek e2x_231 0) (e2_al 6 as_b578) [] E_b578 f_b578 = true := by decide +kernel
noncomputable def cl_b578_0 : List (Nat × e2_S) := [(3, e2_cutL (al_b578_0.set 4 (13, 11, 2147483656)) 3 (E_b578_0.take 3) h_b578_0)]
set_option maxRecDepth 1000000 in
theorem ck_b578_0 : e2_runM (e2_cal S_b578 I_b578 4000 2) (e2_fin rs_b578) e2x_231 (e2_bpL cl_b578_0) (e2_cutA cl_b578_0) 4000 (e2_seek e2x_231 3) al_b578_0 [] E_b578_0 h_b578_0 = true := by decide +kernel
set_option maxRecDepth 1000000 in
theorem ci_b578_0 : e2_idl 3 (al_b578_0.set 4 (9, 0, 0)) = true := by decide +kernel
set_option maxRecDepth 1000000 in
theorem cj_b578_0 : e2_idh 3 8 h_b578_0 = true := by decide +kernel
theorem cs_b578 (hen : en_ok) (l : Launch) : e2_smOk l 3 s_b578 := by
  refine e2_conG (H := 0) (n := 2) (C := evd_231) (S := S_b578) (I := I_b578) (fuel := 4000) hen ei_231 e2_fz (e2_fa ein_215 (e2_fa ein_216 (e2_fa ein_217 (e2_fa ein_225 (e2_fa ein_226 (e2_fa ein_227 e2_fz)))))) (by decide) co_b578 fun M d _ hC hcall p e R s m args below meth c Q D cA A ads r0 ha hl0 => ?_
  have L_0 : e2_gdM M p l e R s m args below meth c Q D cA A ads r0 3 al_b578_0 [] E_b578_0 h_b578_0 := by
    refine e2_indL (u := 3) (j := 4) (lo := 2147483648) (hi := 2147483656) (b := 3) (dd := 0) hl0 (by decide) rfl rfl (Or.inr ⟨rfl, rfl⟩) rfl ci_b578_0 cj_b578_0 ?_
    intro r_0 k_0 hk_0 hp_0 hs_0 hn_0
    have hl_0 : r_0.length ≤ 4 := hs_0.len rfl
    have ha_0 := ha.ext hp_0
    exact e2_fromM hen ha_0 hcall (e2_cutA_ok (e2_fa (fun al st E h hc => hn_0 al st E h hc) e2_fz)) (hC [3]) (X := e2x_231) ex2_231 3 ck_b578_0
  have EN_0 := e2_entL (u := 3) (j := 4) (lo := 2147483648) (hi := 2147483656) hl0 rfl rfl rfl ci_b578_0 cj_b578_0 L_0
  exact e2_from hen ha hcall (e2_cutA_ok (e2_fa (fun al st E h hc => EN_0 al st E h hc) e2_fz)) (hC [3]) (X := e2x_231) ex2_231 0 ck_b578_e
/-! b579 X10_nextAt -/
def as_b579 : List ev_V := [(2, 83, 0), (0, 13, 0), (11, 2147483648, 2147483656), (11, 0, 4294967295)]
def E_b579 : e2_E := [(2147483648, 2147583648, 0, 0), (2147483648, 2147483656, 1, 0), (2147483648, 2147483668, 2, 0)]
noncomputable def f_b579 : ev_H := (bn3607 : e2_Q8)
noncomputable def q_b579_0 : ev_H := (bn3607 : e2_Q8)
noncomputable def rs_b579 : e2_Rs := [((12, 9, 2147483647), q_b579_0)]
noncomputable def s_b579 : e2_Sm := (231, as_b579, E_b579, f_b579, rs_b579)
noncomputable def S_b579 : List e2_Sm := []
noncomputable def I_b579 : List e2_In := [(215, 2, e2x_215), (216, 1, e2x_216), (217, 1, e2x_217), (225, 5, e2x_225), (226, 3, e2x_226), (227, 2, e2x_227)]
set_option maxRecDepth 1000000 in
theorem co_b579 : e2_okSB E_b579.length as_b579 f_b579 rs_b579 = true := by decide +kernel
def al_b579_0 : List ev_V := [(2, 83, 0), (0, 13, 0), (11, 2147483648, 2147483656), (11, 0, 4294967295), (1, 3, 4294967296), (9, 0, 0)]
def E_b579_0 : e2_E := [(2147483648, 2147583648, 0, 0), (2147483648, 2147483656, 1, 0), (2147483648, 2147483668, 2, 0), (2147483648, 2147483656, 3, 0)]
noncomputable def h_b579_0 : ev_H := (bn3607 : e2_Q8)
noncomputable def cl_b579_e : List (Nat × e2_S) := [(3, e2_cutL (al_b579_0.set 4 (11, 2147483648, 2147483656)) 3 (E_b579_0.take 3) h_b579_0)]
set_option maxRecDepth 1000000 in
theorem ck_b579_e : e2_run (e2_cal S_b579 I_b579 4000 2) (e2_fin rs_b579) e2x_231 (e2_bpL cl_b579_e) (e2_cutA cl_b579_e) 4000 (e2_seek e2x_231 0) (e2_al 6 as_b579) [] E_b579 f_b579 = true := by decide +kernel
noncomputable def cl_b579_0 : List (Nat × e2_S) := [(3, e2_cutL (al_b579_0.set 4 (13, 11, 2147483656)) 3 (E_b579_0.take 3) h_b579_0)]
set_option maxRecDepth 1000000 in
theorem ck_b579_0 : e2_runM (e2_cal S_b579 I_b579 4000 2) (e2_fin rs_b579) e2x_231 (e2_bpL cl_b579_0) (e2_cutA cl_b579_0) 4000 (e2_seek e2x_231 3) al_b579_0 [] E_b579_0 h_b579_0 = true := by decide +kernel
set_option maxRecDepth 1000000 in
theorem ci_b579_0 : e2_idl 3 (al_b579_0.set 4 (9, 0, 0)) = true := by decide +kernel
set_option maxRecDepth 1000000 in
theorem cj_b579_0 : e2_idh 3 8 h_b579_0 = true := by decide +kernel
theorem cs_b579 (hen : en_ok) (l : Launch) : e2_smOk l 3 s_b579 := by
  refine e2_conG (H := 0) (n := 2) (C := evd_231) (S := S_b579) (I := I_b579) (fuel := 4000) hen ei_231 e2_fz (e2_fa ein_215 (e2_fa ein_216 (e2_fa ein_217 (e2_fa ein_225 (e2_fa ein_226 (e2_fa ein_227 e2_fz)))))) (by decide) co_b579 fun M d _ hC hcall p e R s m args below meth c Q D cA A ads r0 ha hl0 => ?_
  have L_0 : e2_gdM M p l e R s m args below meth c Q D cA A ads r0 3 al_b579_0 [] E_b579_0 h_b579_0 := by
    refine e2_indL (u := 3) (j := 4) (lo := 2147483648) (hi := 2147483656) (b := 3) (dd := 0) hl0 (by decide) rfl rfl (Or.inr ⟨rfl, rfl⟩) rfl ci_b579_0 cj_b579_0 ?_
    intro r_0 k_0 hk_0 hp_0 hs_0 hn_0
    have hl_0 : r_0.length ≤ 4 := hs_0.len rfl
    have ha_0 := ha.ext hp_0
    exact e2_fromM hen ha_0 hcall (e2_cutA_ok (e2_fa (fun al st E h hc => hn_0 al st E h hc) e2_fz)) (hC [3]) (X := e2x_231) ex2_231 3 ck_b579_0
  have EN_0 := e2_entL (u := 3) (j := 4) (lo := 2147483648) (hi := 2147483656) hl0 rfl rfl rfl ci_b579_0 cj_b579_0 L_0
  exact e2_from hen ha hcall (e2_cutA_ok (e2_fa (fun al st E h hc => EN_0 al st E h hc) e2_fz)) (hC [3]) (X := e2x_231) ex2_231 0 ck_b579_e
/-! b580 X10_nextAt -/
def as_b580 : List ev_V := [(2, 83, 0), (0, 14, 0), (11, 2147483648, 2147483656), (11, 0, 4294967295)]
def E_b580 : e2_E := [(2147483648, 2147583648, 0, 0), (2147483648, 2147483656, 1, 0), (2147483648, 2147483668, 2, 0)]
noncomputable def f_b580 : ev_H := (bn3607 : e2_Q8)
noncomputable def q_b580_0 : ev_H := (bn3607 : e2_Q8)
noncomputable def rs_b580 : e2_Rs := [((12, 9, 2147483647), q_b580_0)]
noncomputable def s_b580 : e2_Sm := (231, as_b580, E_b580, f_b580, rs_b580)
noncomputable def S_b580 : List e2_Sm := []
noncomputable def I_b580 : List e2_In := [(215, 2, e2x_215), (216, 1, e2x_216), (217, 1, e2x_217), (225, 5, e2x_225), (226, 3, e2x_226), (227, 2, e2x_227)]
set_option maxRecDepth 1000000 in
theorem co_b580 : e2_okSB E_b580.length as_b580 f_b580 rs_b580 = true := by decide +kernel
def al_b580_0 : List ev_V := [(2, 83, 0), (0, 14, 0), (11, 2147483648, 2147483656), (11, 0, 4294967295), (1, 3, 4294967296), (9, 0, 0)]
def E_b580_0 : e2_E := [(2147483648, 2147583648, 0, 0), (2147483648, 2147483656, 1, 0), (2147483648, 2147483668, 2, 0), (2147483648, 2147483656, 3, 0)]
noncomputable def h_b580_0 : ev_H := (bn3607 : e2_Q8)
noncomputable def cl_b580_e : List (Nat × e2_S) := [(3, e2_cutL (al_b580_0.set 4 (11, 2147483648, 2147483656)) 3 (E_b580_0.take 3) h_b580_0)]
set_option maxRecDepth 1000000 in
theorem ck_b580_e : e2_run (e2_cal S_b580 I_b580 4000 2) (e2_fin rs_b580) e2x_231 (e2_bpL cl_b580_e) (e2_cutA cl_b580_e) 4000 (e2_seek e2x_231 0) (e2_al 6 as_b580) [] E_b580 f_b580 = true := by decide +kernel
noncomputable def cl_b580_0 : List (Nat × e2_S) := [(3, e2_cutL (al_b580_0.set 4 (13, 11, 2147483656)) 3 (E_b580_0.take 3) h_b580_0)]
set_option maxRecDepth 1000000 in
theorem ck_b580_0 : e2_runM (e2_cal S_b580 I_b580 4000 2) (e2_fin rs_b580) e2x_231 (e2_bpL cl_b580_0) (e2_cutA cl_b580_0) 4000 (e2_seek e2x_231 3) al_b580_0 [] E_b580_0 h_b580_0 = true := by decide +kernel
set_option maxRecDepth 1000000 in
theorem ci_b580_0 : e2_idl 3 (al_b580_0.set 4 (9, 0, 0)) = true := by decide +kernel
set_option maxRecDepth 1000000 in
theorem cj_b580_0 : e2_idh 3 8 h_b580_0 = true := by decide +kernel
theorem cs_b580 (hen : en_ok) (l : Launch) : e2_smOk l 3 s_b580 := by
  refine e2_conG (H := 0) (n := 2) (C := evd_231) (S := S_b580) (I := I_b580) (fuel := 4000) hen ei_231 e2_fz (e2_fa ein_215 (e2_fa ein_216 (e2_fa ein_217 (e2_fa ein_225 (e2_fa ein_226 (e2_fa ein_227 e2_fz)))))) (by decide) co_b580 fun M d _ hC hcall p e R s m args below meth c Q D cA A ads r0 ha hl0 => ?_
  have L_0 : e2_gdM M p l e R s m args below meth c Q D cA A ads r0 3 al_b580_0 [] E_b580_0 h_b580_0 := by
    refine e2_indL (u := 3) (j := 4) (lo := 2147483648) (hi := 2147483656) (b := 3) (dd := 0) hl0 (by decide) rfl rfl (Or.inr ⟨rfl, rfl⟩) rfl ci_b580_0 cj_b580_0 ?_
    intro r_0 k_0 hk_0 hp_0 hs_0 hn_0
    have hl_0 : r_0.length ≤ 4 := hs_0.len rfl
    have ha_0 := ha.ext hp_0
    exact e2_fromM hen ha_0 hcall (e2_cutA_ok (e2_fa (fun al st E h hc => hn_0 al st E h hc) e2_fz)) (hC [3]) (X := e2x_231) ex2_231 3 ck_b580_0
  have EN_0 := e2_entL (u := 3) (j := 4) (lo := 2147483648) (hi := 2147483656) hl0 rfl rfl rfl ci_b580_0 cj_b580_0 L_0
  exact e2_from hen ha hcall (e2_cutA_ok (e2_fa (fun al st E h hc => EN_0 al st E h hc) e2_fz)) (hC [3]) (X := e2x_231) ex2_231 0 ck_b580_e
/-! b581 X10_nextAt -/
def as_b581 : List ev_V := [(2, 83, 0), (0, 15, 0), (11, 2147483648, 2147483656), (11, 0, 4294967295)]
def E_b581 : e2_E := [(2147483648, 2147583648, 0, 0), (2147483648, 2147483656, 1, 0), (2147483648, 2147483668, 2, 0)]
noncomputable def f_b581 : ev_H := (bn3607 : e2_Q8)
noncomputable def q_b581_0 : ev_H := (bn3607 : e2_Q8)
noncomputable def rs_b581 : e2_Rs := [((12, 9, 2147483647), q_b581_0)]
noncomputable def s_b581 : e2_Sm := (231, as_b581, E_b581, f_b581, rs_b581)
noncomputable def S_b581 : List e2_Sm := []
noncomputable def I_b581 : List e2_In := [(215, 2, e2x_215), (216, 1, e2x_216), (217, 1, e2x_217), (225, 5, e2x_225), (226, 3, e2x_226), (227, 2, e2x_227)]
set_option maxRecDepth 1000000 in
theorem co_b581 : e2_okSB E_b581.length as_b581 f_b581 rs_b581 = true := by decide +kernel
def al_b581_0 : List ev_V := [(2, 83, 0), (0, 15, 0), (11, 2147483648, 2147483656), (11, 0, 4294967295), (1, 3, 4294967296), (9, 0, 0)]
def E_b581_0 : e2_E := [(2147483648, 2147583648, 0, 0), (2147483648, 2147483656, 1, 0), (2147483648, 2147483668, 2, 0), (2147483648, 2147483656, 3, 0)]
noncomputable def h_b581_0 : ev_H := (bn3607 : e2_Q8)
noncomputable def cl_b581_e : List (Nat × e2_S) := [(3, e2_cutL (al_b581_0.set 4 (11, 2147483648, 2147483656)) 3 (E_b581_0.take 3) h_b581_0)]
set_option maxRecDepth 1000000 in
theorem ck_b581_e : e2_run (e2_cal S_b581 I_b581 4000 2) (e2_fin rs_b581) e2x_231 (e2_bpL cl_b581_e) (e2_cutA cl_b581_e) 4000 (e2_seek e2x_231 0) (e2_al 6 as_b581) [] E_b581 f_b581 = true := by decide +kernel
noncomputable def cl_b581_0 : List (Nat × e2_S) := [(3, e2_cutL (al_b581_0.set 4 (13, 11, 2147483656)) 3 (E_b581_0.take 3) h_b581_0)]
set_option maxRecDepth 1000000 in
theorem ck_b581_0 : e2_runM (e2_cal S_b581 I_b581 4000 2) (e2_fin rs_b581) e2x_231 (e2_bpL cl_b581_0) (e2_cutA cl_b581_0) 4000 (e2_seek e2x_231 3) al_b581_0 [] E_b581_0 h_b581_0 = true := by decide +kernel
set_option maxRecDepth 1000000 in
theorem ci_b581_0 : e2_idl 3 (al_b581_0.set 4 (9, 0, 0)) = true := by decide +kernel
set_option maxRecDepth 1000000 in
theorem cj_b581_0 : e2_idh 3 8 h_b581_0 = true := by decide +kernel
theorem cs_b581 (hen : en_ok) (l : Launch) : e2_smOk l 3 s_b581 := by
  refine e2_conG (H := 0) (n := 2) (C := evd_231) (S := S_b581) (I := I_b581) (fuel := 4000) hen ei_231 e2_fz (e2_fa ein_215 (e2_fa ein_216 (e2_fa ein_217 (e2_fa ein_225 (e2_fa ein_226 (e2_fa ein_227 e2_fz)))))) (by decide) co_b581 fun M d _ hC hcall p e R s m args below meth c Q D cA A ads r0 ha hl0 => ?_
  have L_0 : e2_gdM M p l e R s m args below meth c Q D cA A ads r0 3 al_b581_0 [] E_b581_0 h_b581_0 := by
    refine e2_indL (u := 3) (j := 4) (lo := 2147483648) (hi := 2147483656) (b := 3) (dd := 0) hl0 (by decide) rfl rfl (Or.inr ⟨rfl, rfl⟩) rfl ci_b581_0 cj_b581_0 ?_
    intro r_0 k_0 hk_0 hp_0 hs_0 hn_0
    have hl_0 : r_0.length ≤ 4 := hs_0.len rfl
    have ha_0 := ha.ext hp_0
    exact e2_fromM hen ha_0 hcall (e2_cutA_ok (e2_fa (fun al st E h hc => hn_0 al st E h hc) e2_fz)) (hC [3]) (X := e2x_231) ex2_231 3 ck_b581_0
  have EN_0 := e2_entL (u := 3) (j := 4) (lo := 2147483648) (hi := 2147483656) hl0 rfl rfl rfl ci_b581_0 cj_b581_0 L_0
  exact e2_from hen ha hcall (e2_cutA_ok (e2_fa (fun al st E h hc => EN_0 al st E h hc) e2_fz)) (hC [3]) (X := e2x_231) ex2_231 0 ck_b581_e
/-! b582 X10_nextAt -/
def as_b582 : List ev_V := [(2, 83, 0), (0, 16, 0), (11, 2147483648, 2147483656), (11, 0, 4294967295)]
def E_b582 : e2_E := [(2147483648, 2147583648, 0, 0), (2147483648, 2147483656, 1, 0), (2147483648, 2147483668, 2, 0)]
noncomputable def f_b582 : ev_H := (bn3607 : e2_Q8)
noncomputable def q_b582_0 : ev_H := (bn3607 : e2_Q8)
noncomputable def rs_b582 : e2_Rs := [((12, 9, 2147483647), q_b582_0)]
noncomputable def s_b582 : e2_Sm := (231, as_b582, E_b582, f_b582, rs_b582)
noncomputable def S_b582 : List e2_Sm := []
noncomputable def I_b582 : List e2_In := [(215, 2, e2x_215), (216, 1, e2x_216), (217, 1, e2x_217), (225, 5, e2x_225), (226, 3, e2x_226), (227, 2, e2x_227)]
set_option maxRecDepth 1000000 in
theorem co_b582 : e2_okSB E_b582.length as_b582 f_b582 rs_b582 = true := by decide +kernel
def al_b582_0 : List ev_V := [(2, 83, 0), (0, 16, 0), (11, 2147483648, 2147483656), (11, 0, 4294967295), (1, 3, 4294967296), (9, 0, 0)]
def E_b582_0 : e2_E := [(2147483648, 2147583648, 0, 0), (2147483648, 2147483656, 1, 0), (2147483648, 2147483668, 2, 0), (2147483648, 2147483656, 3, 0)]
noncomputable def h_b582_0 : ev_H := (bn3607 : e2_Q8)
noncomputable def cl_b582_e : List (Nat × e2_S) := [(3, e2_cutL (al_b582_0.set 4 (11, 2147483648, 2147483656)) 3 (E_b582_0.take 3) h_b582_0)]
set_option maxRecDepth 1000000 in
theorem ck_b582_e : e2_run (e2_cal S_b582 I_b582 4000 2) (e2_fin rs_b582) e2x_231 (e2_bpL cl_b582_e) (e2_cutA cl_b582_e) 4000 (e2_seek e2x_231 0) (e2_al 6 as_b582) [] E_b582 f_b582 = true := by decide +kernel
noncomputable def cl_b582_0 : List (Nat × e2_S) := [(3, e2_cutL (al_b582_0.set 4 (13, 11, 2147483656)) 3 (E_b582_0.take 3) h_b582_0)]
set_option maxRecDepth 1000000 in
theorem ck_b582_0 : e2_runM (e2_cal S_b582 I_b582 4000 2) (e2_fin rs_b582) e2x_231 (e2_bpL cl_b582_0) (e2_cutA cl_b582_0) 4000 (e2_seek e2x_231 3) al_b582_0 [] E_b582_0 h_b582_0 = true := by decide +kernel
set_option maxRecDepth 1000000 in
theorem ci_b582_0 : e2_idl 3 (al_b582_0.set 4 (9, 0, 0)) = true := by decide +kernel
set_option maxRecDepth 1000000 in
theorem cj_b582_0 : e2_idh 3 8 h_b582_0 = true := by decide +kernel
theorem cs_b582 (hen : en_ok) (l : Launch) : e2_smOk l 3 s_b582 := by
  refine e2_conG (H := 0) (n := 2) (C := evd_231) (S := S_b582) (I := I_b582) (fuel := 4000) hen ei_231 e2_fz (e2_fa ein_215 (e2_fa ein_216 (e2_fa ein_217 (e2_fa ein_225 (e2_fa ein_226 (e2_fa ein_227 e2_fz)))))) (by decide) co_b582 fun M d _ hC hcall p e R s m args below meth c Q D cA A ads r0 ha hl0 => ?_
  have L_0 : e2_gdM M p l e R s m args below meth c Q D cA A ads r0 3 al_b582_0 [] E_b582_0 h_b582_0 := by
    refine e2_indL (u := 3) (j := 4) (lo := 2147483648) (hi := 2147483656) (b := 3) (dd := 0) hl0 (by decide) rfl rfl (Or.inr ⟨rfl, rfl⟩) rfl ci_b582_0 cj_b582_0 ?_
    intro r_0 k_0 hk_0 hp_0 hs_0 hn_0
    have hl_0 : r_0.length ≤ 4 := hs_0.len rfl
    have ha_0 := ha.ext hp_0
    exact e2_fromM hen ha_0 hcall (e2_cutA_ok (e2_fa (fun al st E h hc => hn_0 al st E h hc) e2_fz)) (hC [3]) (X := e2x_231) ex2_231 3 ck_b582_0
  have EN_0 := e2_entL (u := 3) (j := 4) (lo := 2147483648) (hi := 2147483656) hl0 rfl rfl rfl ci_b582_0 cj_b582_0 L_0
  exact e2_from hen ha hcall (e2_cutA_ok (e2_fa (fun al st E h hc => EN_0 al st E h hc) e2_fz)) (hC [3]) (X := e2x_231) ex2_231 0 ck_b582_e
/-! b583 X10_nextAt -/
def as_b583 : List ev_V := [(2, 83, 0), (0, 17, 0), (11, 2147483648, 2147483656), (11, 0, 4294967295)]
def E_b583 : e2_E := [(2147483648, 2147583648, 0, 0), (2147483648, 2147483656, 1, 0), (2147483648, 2147483668, 2, 0)]
noncomputable def f_b583 : ev_H := (bn3607 : e2_Q8)
noncomputable def q_b583_0 : ev_H := (bn3607 : e2_Q8)
noncomputable def rs_b583 : e2_Rs := [((12, 9, 2147483647), q_b583_0)]
noncomputable def s_b583 : e2_Sm := (231, as_b583, E_b583, f_b583, rs_b583)
noncomputable def S_b583 : List e2_Sm := []
noncomputable def I_b583 : List e2_In := [(215, 2, e2x_215), (216, 1, e2x_216), (217, 1, e2x_217), (225, 5, e2x_225), (226, 3, e2x_226), (227, 2, e2x_227)]
set_option maxRecDepth 1000000 in
theorem co_b583 : e2_okSB E_b583.length as_b583 f_b583 rs_b583 = true := by decide +kernel
def al_b583_0 : List ev_V := [(2, 83, 0), (0, 17, 0), (11, 2147483648, 2147483656), (11, 0, 4294967295), (1, 3, 4294967296), (9, 0, 0)]
def E_b583_0 : e2_E := [(2147483648, 2147583648, 0, 0), (2147483648, 2147483656, 1, 0), (2147483648, 2147483668, 2, 0), (2147483648, 2147483656, 3, 0)]
noncomputable def h_b583_0 : ev_H := (bn3607 : e2_Q8)
noncomputable def cl_b583_e : List (Nat × e2_S) := [(3, e2_cutL (al_b583_0.set 4 (11, 2147483648, 2147483656)) 3 (E_b583_0.take 3) h_b583_0)]
set_option maxRecDepth 1000000 in
theorem ck_b583_e : e2_run (e2_cal S_b583 I_b583 4000 2) (e2_fin rs_b583) e2x_231 (e2_bpL cl_b583_e) (e2_cutA cl_b583_e) 4000 (e2_seek e2x_231 0) (e2_al 6 as_b583) [] E_b583 f_b583 = true := by decide +kernel
noncomputable def cl_b583_0 : List (Nat × e2_S) := [(3, e2_cutL (al_b583_0.set 4 (13, 11, 2147483656)) 3 (E_b583_0.take 3) h_b583_0)]
set_option maxRecDepth 1000000 in
theorem ck_b583_0 : e2_runM (e2_cal S_b583 I_b583 4000 2) (e2_fin rs_b583) e2x_231 (e2_bpL cl_b583_0) (e2_cutA cl_b583_0) 4000 (e2_seek e2x_231 3) al_b583_0 [] E_b583_0 h_b583_0 = true := by decide +kernel
set_option maxRecDepth 1000000 in
theorem ci_b583_0 : e2_idl 3 (al_b583_0.set 4 (9, 0, 0)) = true := by decide +kernel
set_option maxRecDepth 1000000 in
theorem cj_b583_0 : e2_idh 3 8 h_b583_0 = true := by decide +kernel
theorem cs_b583 (hen : en_ok) (l : Launch) : e2_smOk l 3 s_b583 := by
  refine e2_conG (H := 0) (n := 2) (C := evd_231) (S := S_b583) (I := I_b583) (fuel := 4000) hen ei_231 e2_fz (e2_fa ein_215 (e2_fa ein_216 (e2_fa ein_217 (e2_fa ein_225 (e2_fa ein_226 (e2_fa ein_227 e2_fz)))))) (by decide) co_b583 fun M d _ hC hcall p e R s m args below meth c Q D cA A ads r0 ha hl0 => ?_
  have L_0 : e2_gdM M p l e R s m args below meth c Q D cA A ads r0 3 al_b583_0 [] E_b583_0 h_b583_0 := by
    refine e2_indL (u := 3) (j := 4) (lo := 2147483648) (hi := 2147483656) (b := 3) (dd := 0) hl0 (by decide) rfl rfl (Or.inr ⟨rfl, rfl⟩) rfl ci_b583_0 cj_b583_0 ?_
    intro r_0 k_0 hk_0 hp_0 hs_0 hn_0
    have hl_0 : r_0.length ≤ 4 := hs_0.len rfl
    have ha_0 := ha.ext hp_0
    exact e2_fromM hen ha_0 hcall (e2_cutA_ok (e2_fa (fun al st E h hc => hn_0 al st E h hc) e2_fz)) (hC [3]) (X := e2x_231) ex2_231 3 ck_b583_0
  have EN_0 := e2_entL (u := 3) (j := 4) (lo := 2147483648) (hi := 2147483656) hl0 rfl rfl rfl ci_b583_0 cj_b583_0 L_0
  exact e2_from hen ha hcall (e2_cutA_ok (e2_fa (fun al st E h hc => EN_0 al st E h hc) e2_fz)) (hC [3]) (X := e2x_231) ex2_231 0 ck_b583_e
/-! b584 X10_nextAt -/
def as_b584 : List ev_V := [(2, 83, 0), (0, 18, 0), (11, 2147483648, 2147483656), (11, 0, 4294967295)]
def E_b584 : e2_E := [(2147483648, 2147583648, 0, 0), (2147483648, 2147483656, 1, 0), (2147483648, 2147483668, 2, 0)]
noncomputable def f_b584 : ev_H := (bn3607 : e2_Q8)
noncomputable def q_b584_0 : ev_H := (bn3607 : e2_Q8)
noncomputable def rs_b584 : e2_Rs := [((12, 9, 2147483647), q_b584_0)]
noncomputable def s_b584 : e2_Sm := (231, as_b584, E_b584, f_b584, rs_b584)
noncomputable def S_b584 : List e2_Sm := []
noncomputable def I_b584 : List e2_In := [(215, 2, e2x_215), (216, 1, e2x_216), (217, 1, e2x_217), (225, 5, e2x_225), (226, 3, e2x_226), (227, 2, e2x_227)]
set_option maxRecDepth 1000000 in
theorem co_b584 : e2_okSB E_b584.length as_b584 f_b584 rs_b584 = true := by decide +kernel
def al_b584_0 : List ev_V := [(2, 83, 0), (0, 18, 0), (11, 2147483648, 2147483656), (11, 0, 4294967295), (1, 3, 4294967296), (9, 0, 0)]
def E_b584_0 : e2_E := [(2147483648, 2147583648, 0, 0), (2147483648, 2147483656, 1, 0), (2147483648, 2147483668, 2, 0), (2147483648, 2147483656, 3, 0)]
noncomputable def h_b584_0 : ev_H := (bn3607 : e2_Q8)
noncomputable def cl_b584_e : List (Nat × e2_S) := [(3, e2_cutL (al_b584_0.set 4 (11, 2147483648, 2147483656)) 3 (E_b584_0.take 3) h_b584_0)]
set_option maxRecDepth 1000000 in
theorem ck_b584_e : e2_run (e2_cal S_b584 I_b584 4000 2) (e2_fin rs_b584) e2x_231 (e2_bpL cl_b584_e) (e2_cutA cl_b584_e) 4000 (e2_seek e2x_231 0) (e2_al 6 as_b584) [] E_b584 f_b584 = true := by decide +kernel
noncomputable def cl_b584_0 : List (Nat × e2_S) := [(3, e2_cutL (al_b584_0.set 4 (13, 11, 2147483656)) 3 (E_b584_0.take 3) h_b584_0)]
set_option maxRecDepth 1000000 in
theorem ck_b584_0 : e2_runM (e2_cal S_b584 I_b584 4000 2) (e2_fin rs_b584) e2x_231 (e2_bpL cl_b584_0) (e2_cutA cl_b584_0) 4000 (e2_seek e2x_231 3) al_b584_0 [] E_b584_0 h_b584_0 = true := by decide +kernel
set_option maxRecDepth 1000000 in
theorem ci_b584_0 : e2_idl 3 (al_b584_0.set 4 (9, 0, 0)) = true := by decide +kernel
set_option maxRecDepth 1000000 in
theorem cj_b584_0 : e2_idh 3 8 h_b584_0 = true := by decide +kernel
theorem cs_b584 (hen : en_ok) (l : Launch) : e2_smOk l 3 s_b584 := by
  refine e2_conG (H := 0) (n := 2) (C := evd_231) (S := S_b584) (I := I_b584) (fuel := 4000) hen ei_231 e2_fz (e2_fa ein_215 (e2_fa ein_216 (e2_fa ein_217 (e2_fa ein_225 (e2_fa ein_226 (e2_fa ein_227 e2_fz)))))) (by decide) co_b584 fun M d _ hC hcall p e R s m args below meth c Q D cA A ads r0 ha hl0 => ?_
  have L_0 : e2_gdM M p l e R s m args below meth c Q D cA A ads r0 3 al_b584_0 [] E_b584_0 h_b584_0 := by
    refine e2_indL (u := 3) (j := 4) (lo := 2147483648) (hi := 2147483656) (b := 3) (dd := 0) hl0 (by decide) rfl rfl (Or.inr ⟨rfl, rfl⟩) rfl ci_b584_0 cj_b584_0 ?_
    intro r_0 k_0 hk_0 hp_0 hs_0 hn_0
    have hl_0 : r_0.length ≤ 4 := hs_0.len rfl
    have ha_0 := ha.ext hp_0
    exact e2_fromM hen ha_0 hcall (e2_cutA_ok (e2_fa (fun al st E h hc => hn_0 al st E h hc) e2_fz)) (hC [3]) (X := e2x_231) ex2_231 3 ck_b584_0
  have EN_0 := e2_entL (u := 3) (j := 4) (lo := 2147483648) (hi := 2147483656) hl0 rfl rfl rfl ci_b584_0 cj_b584_0 L_0
  exact e2_from hen ha hcall (e2_cutA_ok (e2_fa (fun al st E h hc => EN_0 al st E h hc) e2_fz)) (hC [3]) (X := e2x_231) ex2_231 0 ck_b584_e
/-! b585 X10_nextAt -/
def as_b585 : List ev_V := [(2, 83, 0), (0, 19, 0), (11, 2147483648, 2147483656), (11, 0, 4294967295)]
def E_b585 : e2_E := [(2147483648, 2147583648, 0, 0), (2147483648, 2147483656, 1, 0), (2147483648, 2147483668, 2, 0)]
noncomputable def f_b585 : ev_H := (bn3607 : e2_Q8)
noncomputable def q_b585_0 : ev_H := (bn3607 : e2_Q8)
noncomputable def rs_b585 : e2_Rs := [((12, 9, 2147483647), q_b585_0)]
noncomputable def s_b585 : e2_Sm := (231, as_b585, E_b585, f_b585, rs_b585)
noncomputable def S_b585 : List e2_Sm := []
noncomputable def I_b585 : List e2_In := [(215, 2, e2x_215), (216, 1, e2x_216), (217, 1, e2x_217), (225, 5, e2x_225), (226, 3, e2x_226), (227, 2, e2x_227)]
set_option maxRecDepth 1000000 in
theorem co_b585 : e2_okSB E_b585.length as_b585 f_b585 rs_b585 = true := by decide +kernel
def al_b585_0 : List ev_V := [(2, 83, 0), (0, 19, 0), (11, 2147483648, 2147483656), (11, 0, 4294967295), (1, 3, 4294967296), (9, 0, 0)]
def E_b585_0 : e2_E := [(2147483648, 2147583648, 0, 0), (2147483648, 2147483656, 1, 0), (2147483648, 2147483668, 2, 0), (2147483648, 2147483656, 3, 0)]
noncomputable def h_b585_0 : ev_H := (bn3607 : e2_Q8)
noncomputable def cl_b585_e : List (Nat × e2_S) := [(3, e2_cutL (al_b585_0.set 4 (11, 2147483648, 2147483656)) 3 (E_b585_0.take 3) h_b585_0)]
set_option maxRecDepth 1000000 in
theorem ck_b585_e : e2_run (e2_cal S_b585 I_b585 4000 2) (e2_fin rs_b585) e2x_231 (e2_bpL cl_b585_e) (e2_cutA cl_b585_e) 4000 (e2_seek e2x_231 0) (e2_al 6 as_b585) [] E_b585 f_b585 = true := by decide +kernel
noncomputable def cl_b585_0 : List (Nat × e2_S) := [(3, e2_cutL (al_b585_0.set 4 (13, 11, 2147483656)) 3 (E_b585_0.take 3) h_b585_0)]
set_option maxRecDepth 1000000 in
theorem ck_b585_0 : e2_runM (e2_cal S_b585 I_b585 4000 2) (e2_fin rs_b585) e2x_231 (e2_bpL cl_b585_0) (e2_cutA cl_b585_0) 4000 (e2_seek e2x_231 3) al_b585_0 [] E_b585_0 h_b585_0 = true := by decide +kernel
set_option maxRecDepth 1000000 in
theorem ci_b585_0 : e2_idl 3 (al_b585_0.set 4 (9, 0, 0)) = true := by decide +kernel
set_option maxRecDepth 1000000 in
theorem cj_b585_0 : e2_idh 3 8 h_b585_0 = true := by decide +kernel
theorem cs_b585 (hen : en_ok) (l : Launch) : e2_smOk l 3 s_b585 := by
  refine e2_conG (H := 0) (n := 2) (C := evd_231) (S := S_b585) (I := I_b585) (fuel := 4000) hen ei_231 e2_fz (e2_fa ein_215 (e2_fa ein_216 (e2_fa ein_217 (e2_fa ein_225 (e2_fa ein_226 (e2_fa ein_227 e2_fz)))))) (by decide) co_b585 fun M d _ hC hcall p e R s m args below meth c Q D cA A ads r0 ha hl0 => ?_
  have L_0 : e2_gdM M p l e R s m args below meth c Q D cA A ads r0 3 al_b585_0 [] E_b585_0 h_b585_0 := by
    refine e2_indL (u := 3) (j := 4) (lo := 2147483648) (hi := 2147483656) (b := 3) (dd := 0) hl0 (by decide) rfl rfl (Or.inr ⟨rfl, rfl⟩) rfl ci_b585_0 cj_b585_0 ?_
    intro r_0 k_0 hk_0 hp_0 hs_0 hn_0
    have hl_0 : r_0.length ≤ 4 := hs_0.len rfl
    have ha_0 := ha.ext hp_0
    exact e2_fromM hen ha_0 hcall (e2_cutA_ok (e2_fa (fun al st E h hc => hn_0 al st E h hc) e2_fz)) (hC [3]) (X := e2x_231) ex2_231 3 ck_b585_0
  have EN_0 := e2_entL (u := 3) (j := 4) (lo := 2147483648) (hi := 2147483656) hl0 rfl rfl rfl ci_b585_0 cj_b585_0 L_0
  exact e2_from hen ha hcall (e2_cutA_ok (e2_fa (fun al st E h hc => EN_0 al st E h hc) e2_fz)) (hC [3]) (X := e2x_231) ex2_231 0 ck_b585_e
/-! b586 X10_nextAt -/
def as_b586 : List ev_V := [(2, 83, 0), (0, 2, 0), (11, 2147483648, 2147483656), (11, 0, 4294967295)]
def E_b586 : e2_E := [(2147483648, 2147583648, 0, 0), (2147483648, 2147483656, 1, 0), (2147483648, 2147483668, 2, 0)]
noncomputable def f_b586 : ev_H := (bn3607 : e2_Q8)
noncomputable def q_b586_0 : ev_H := (bn3607 : e2_Q8)
noncomputable def rs_b586 : e2_Rs := [((12, 9, 2147483647), q_b586_0)]
noncomputable def s_b586 : e2_Sm := (231, as_b586, E_b586, f_b586, rs_b586)
noncomputable def S_b586 : List e2_Sm := []
noncomputable def I_b586 : List e2_In := [(215, 2, e2x_215), (216, 1, e2x_216), (217, 1, e2x_217), (225, 5, e2x_225), (226, 3, e2x_226), (227, 2, e2x_227)]
set_option maxRecDepth 1000000 in
theorem co_b586 : e2_okSB E_b586.length as_b586 f_b586 rs_b586 = true := by decide +kernel
def al_b586_0 : List ev_V := [(2, 83, 0), (0, 2, 0), (11, 2147483648, 2147483656), (11, 0, 4294967295), (1, 3, 4294967296), (9, 0, 0)]
def E_b586_0 : e2_E := [(2147483648, 2147583648, 0, 0), (2147483648, 2147483656, 1, 0), (2147483648, 2147483668, 2, 0), (2147483648, 2147483656, 3, 0)]
noncomputable def h_b586_0 : ev_H := (bn3607 : e2_Q8)
noncomputable def cl_b586_e : List (Nat × e2_S) := [(3, e2_cutL (al_b586_0.set 4 (11, 2147483648, 2147483656)) 3 (E_b586_0.take 3) h_b586_0)]
set_option maxRecDepth 1000000 in
theorem ck_b586_e : e2_run (e2_cal S_b586 I_b586 4000 2) (e2_fin rs_b586) e2x_231 (e2_bpL cl_b586_e) (e2_cutA cl_b586_e) 4000 (e2_seek e2x_231 0) (e2_al 6 as_b586) [] E_b586 f_b586 = true := by decide +kernel
noncomputable def cl_b586_0 : List (Nat × e2_S) := [(3, e2_cutL (al_b586_0.set 4 (13, 11, 2147483656)) 3 (E_b586_0.take 3) h_b586_0)]
set_option maxRecDepth 1000000 in
theorem ck_b586_0 : e2_runM (e2_cal S_b586 I_b586 4000 2) (e2_fin rs_b586) e2x_231 (e2_bpL cl_b586_0) (e2_cutA cl_b586_0) 4000 (e2_seek e2x_231 3) al_b586_0 [] E_b586_0 h_b586_0 = true := by decide +kernel
set_option maxRecDepth 1000000 in
theorem ci_b586_0 : e2_idl 3 (al_b586_0.set 4 (9, 0, 0)) = true := by decide +kernel
set_option maxRecDepth 1000000 in
theorem cj_b586_0 : e2_idh 3 8 h_b586_0 = true := by decide +kernel
theorem cs_b586 (hen : en_ok) (l : Launch) : e2_smOk l 3 s_b586 := by
  refine e2_conG (H := 0) (n := 2) (C := evd_231) (S := S_b586) (I := I_b586) (fuel := 4000) hen ei_231 e2_fz (e2_fa ein_215 (e2_fa ein_216 (e2_fa ein_217 (e2_fa ein_225 (e2_fa ein_226 (e2_fa ein_227 e2_fz)))))) (by decide) co_b586 fun M d _ hC hcall p e R s m args below meth c Q D cA A ads r0 ha hl0 => ?_
  have L_0 : e2_gdM M p l e R s m args below meth c Q D cA A ads r0 3 al_b586_0 [] E_b586_0 h_b586_0 := by
    refine e2_indL (u := 3) (j := 4) (lo := 2147483648) (hi := 2147483656) (b := 3) (dd := 0) hl0 (by decide) rfl rfl (Or.inr ⟨rfl, rfl⟩) rfl ci_b586_0 cj_b586_0 ?_
    intro r_0 k_0 hk_0 hp_0 hs_0 hn_0
    have hl_0 : r_0.length ≤ 4 := hs_0.len rfl
    have ha_0 := ha.ext hp_0
    exact e2_fromM hen ha_0 hcall (e2_cutA_ok (e2_fa (fun al st E h hc => hn_0 al st E h hc) e2_fz)) (hC [3]) (X := e2x_231) ex2_231 3 ck_b586_0
  have EN_0 := e2_entL (u := 3) (j := 4) (lo := 2147483648) (hi := 2147483656) hl0 rfl rfl rfl ci_b586_0 cj_b586_0 L_0
  exact e2_from hen ha hcall (e2_cutA_ok (e2_fa (fun al st E h hc => EN_0 al st E h hc) e2_fz)) (hC [3]) (X := e2x_231) ex2_231 0 ck_b586_e
/-! b587 X10_nextAt -/
def as_b587 : List ev_V := [(2, 83, 0), (0, 3, 0), (11, 2147483648, 2147483656), (11, 0, 4294967295)]
def E_b587 : e2_E := [(2147483648, 2147583648, 0, 0), (2147483648, 2147483656, 1, 0), (2147483648, 2147483668, 2, 0)]
noncomputable def f_b587 : ev_H := (bn3607 : e2_Q8)
noncomputable def q_b587_0 : ev_H := (bn3607 : e2_Q8)
noncomputable def rs_b587 : e2_Rs := [((12, 9, 2147483647), q_b587_0)]
noncomputable def s_b587 : e2_Sm := (231, as_b587, E_b587, f_b587, rs_b587)
noncomputable def S_b587 : List e2_Sm := []
noncomputable def I_b587 : List e2_In := [(215, 2, e2x_215), (216, 1, e2x_216), (217, 1, e2x_217), (225, 5, e2x_225), (226, 3, e2x_226), (227, 2, e2x_227)]
set_option maxRecDepth 1000000 in
theorem co_b587 : e2_okSB E_b587.length as_b587 f_b587 rs_b587 = true := by decide +kernel
def al_b587_0 : List ev_V := [(2, 83, 0), (0, 3, 0), (11, 2147483648, 2147483656), (11, 0, 4294967295), (1, 3, 4294967296), (9, 0, 0)]
def E_b587_0 : e2_E := [(2147483648, 2147583648, 0, 0), (2147483648, 2147483656, 1, 0), (2147483648, 2147483668, 2, 0), (2147483648, 2147483656, 3, 0)]
noncomputable def h_b587_0 : ev_H := (bn3607 : e2_Q8)
noncomputable def cl_b587_e : List (Nat × e2_S) := [(3, e2_cutL (al_b587_0.set 4 (11, 2147483648, 2147483656)) 3 (E_b587_0.take 3) h_b587_0)]
set_option maxRecDepth 1000000 in
theorem ck_b587_e : e2_run (e2_cal S_b587 I_b587 4000 2) (e2_fin rs_b587) e2x_231 (e2_bpL cl_b587_e) (e2_cutA cl_b587_e) 4000 (e2_seek e2x_231 0) (e2_al 6 as_b587) [] E_b587 f_b587 = true := by decide +kernel
noncomputable def cl_b587_0 : List (Nat × e2_S) := [(3, e2_cutL (al_b587_0.set 4 (13, 11, 2147483656)) 3 (E_b587_0.take 3) h_b587_0)]
set_option maxRecDepth 1000000 in
theorem ck_b587_0 : e2_runM (e2_cal S_b587 I_b587 4000 2) (e2_fin rs_b587) e2x_231 (e2_bpL cl_b587_0) (e2_cutA cl_b587_0) 4000 (e2_seek e2x_231 3) al_b587_0 [] E_b587_0 h_b587_0 = true := by decide +kernel
set_option maxRecDepth 1000000 in
theorem ci_b587_0 : e2_idl 3 (al_b587_0.set 4 (9, 0, 0)) = true := by decide +kernel
set_option maxRecDepth 1000000 in
theorem cj_b587_0 : e2_idh 3 8 h_b587_0 = true := by decide +kernel
theorem cs_b587 (hen : en_ok) (l : Launch) : e2_smOk l 3 s_b587 := by
  refine e2_conG (H := 0) (n := 2) (C := evd_231) (S := S_b587) (I := I_b587) (fuel := 4000) hen ei_231 e2_fz (e2_fa ein_215 (e2_fa ein_216 (e2_fa ein_217 (e2_fa ein_225 (e2_fa ein_226 (e2_fa ein_227 e2_fz)))))) (by decide) co_b587 fun M d _ hC hcall p e R s m args below meth c Q D cA A ads r0 ha hl0 => ?_
  have L_0 : e2_gdM M p l e R s m args below meth c Q D cA A ads r0 3 al_b587_0 [] E_b587_0 h_b587_0 := by
    refine e2_indL (u := 3) (j := 4) (lo := 2147483648) (hi := 2147483656) (b := 3) (dd := 0) hl0 (by decide) rfl rfl (Or.inr ⟨rfl, rfl⟩) rfl ci_b587_0 cj_b587_0 ?_
    intro r_0 k_0 hk_0 hp_0 hs_0 hn_0
    have hl_0 : r_0.length ≤ 4 := hs_0.len rfl
    have ha_0 := ha.ext hp_0
    exact e2_fromM hen ha_0 hcall (e2_cutA_ok (e2_fa (fun al st E h hc => hn_0 al st E h hc) e2_fz)) (hC [3]) (X := e2x_231) ex2_231 3 ck_b587_0
  have EN_0 := e2_entL (u := 3) (j := 4) (lo := 2147483648) (hi := 2147483656) hl0 rfl rfl rfl ci_b587_0 cj_b587_0 L_0
  exact e2_from hen ha hcall (e2_cutA_ok (e2_fa (fun al st E h hc => EN_0 al st E h hc) e2_fz)) (hC [3]) (X := e2x_231) ex2_231 0 ck_b587_e
/-! b588 X10_nextAt -/
def as_b588 : List ev_V := [(2, 83, 0), (0, 4, 0), (11, 2147483648, 2147483656), (11, 0, 4294967295)]
def E_b588 : e2_E := [(2147483648, 2147583648, 0, 0), (2147483648, 2147483656, 1, 0), (2147483648, 2147483668, 2, 0)]
noncomputable def f_b588 : ev_H := (bn3607 : e2_Q8)
noncomputable def q_b588_0 : ev_H := (bn3607 : e2_Q8)
noncomputable def rs_b588 : e2_Rs := [((12, 9, 2147483647), q_b588_0)]
noncomputable def s_b588 : e2_Sm := (231, as_b588, E_b588, f_b588, rs_b588)
noncomputable def S_b588 : List e2_Sm := []
noncomputable def I_b588 : List e2_In := [(215, 2, e2x_215), (216, 1, e2x_216), (217, 1, e2x_217), (225, 5, e2x_225), (226, 3, e2x_226), (227, 2, e2x_227)]
set_option maxRecDepth 1000000 in
theorem co_b588 : e2_okSB E_b588.length as_b588 f_b588 rs_b588 = true := by decide +kernel
def al_b588_0 : List ev_V := [(2, 83, 0), (0, 4, 0), (11, 2147483648, 2147483656), (11, 0, 4294967295), (1, 3, 4294967296), (9, 0, 0)]
def E_b588_0 : e2_E := [(2147483648, 2147583648, 0, 0), (2147483648, 2147483656, 1, 0), (2147483648, 2147483668, 2, 0), (2147483648, 2147483656, 3, 0)]
noncomputable def h_b588_0 : ev_H := (bn3607 : e2_Q8)
noncomputable def cl_b588_e : List (Nat × e2_S) := [(3, e2_cutL (al_b588_0.set 4 (11, 2147483648, 2147483656)) 3 (E_b588_0.take 3) h_b588_0)]
set_option maxRecDepth 1000000 in
theorem ck_b588_e : e2_run (e2_cal S_b588 I_b588 4000 2) (e2_fin rs_b588) e2x_231 (e2_bpL cl_b588_e) (e2_cutA cl_b588_e) 4000 (e2_seek e2x_231 0) (e2_al 6 as_b588) [] E_b588 f_b588 = true := by decide +kernel
noncomputable def cl_b588_0 : List (Nat × e2_S) := [(3, e2_cutL (al_b588_0.set 4 (13, 11, 2147483656)) 3 (E_b588_0.take 3) h_b588_0)]
set_option maxRecDepth 1000000 in
theorem ck_b588_0 : e2_runM (e2_cal S_b588 I_b588 4000 2) (e2_fin rs_b588) e2x_231 (e2_bpL cl_b588_0) (e2_cutA cl_b588_0) 4000 (e2_seek e2x_231 3) al_b588_0 [] E_b588_0 h_b588_0 = true := by decide +kernel
set_option maxRecDepth 1000000 in
theorem ci_b588_0 : e2_idl 3 (al_b588_0.set 4 (9, 0, 0)) = true := by decide +kernel
set_option maxRecDepth 1000000 in
theorem cj_b588_0 : e2_idh 3 8 h_b588_0 = true := by decide +kernel
theorem cs_b588 (hen : en_ok) (l : Launch) : e2_smOk l 3 s_b588 := by
  refine e2_conG (H := 0) (n := 2) (C := evd_231) (S := S_b588) (I := I_b588) (fuel := 4000) hen ei_231 e2_fz (e2_fa ein_215 (e2_fa ein_216 (e2_fa ein_217 (e2_fa ein_225 (e2_fa ein_226 (e2_fa ein_227 e2_fz)))))) (by decide) co_b588 fun M d _ hC hcall p e R s m args below meth c Q D cA A ads r0 ha hl0 => ?_
  have L_0 : e2_gdM M p l e R s m args below meth c Q D cA A ads r0 3 al_b588_0 [] E_b588_0 h_b588_0 := by
    refine e2_indL (u := 3) (j := 4) (lo := 2147483648) (hi := 2147483656) (b := 3) (dd := 0) hl0 (by decide) rfl rfl (Or.inr ⟨rfl, rfl⟩) rfl ci_b588_0 cj_b588_0 ?_
    intro r_0 k_0 hk_0 hp_0 hs_0 hn_0
    have hl_0 : r_0.length ≤ 4 := hs_0.len rfl
    have ha_0 := ha.ext hp_0
    exact e2_fromM hen ha_0 hcall (e2_cutA_ok (e2_fa (fun al st E h hc => hn_0 al st E h hc) e2_fz)) (hC [3]) (X := e2x_231) ex2_231 3 ck_b588_0
  have EN_0 := e2_entL (u := 3) (j := 4) (lo := 2147483648) (hi := 2147483656) hl0 rfl rfl rfl ci_b588_0 cj_b588_0 L_0
  exact e2_from hen ha hcall (e2_cutA_ok (e2_fa (fun al st E h hc => EN_0 al st E h hc) e2_fz)) (hC [3]) (X := e2x_231) ex2_231 0 ck_b588_e
/-! b589 X10_nextAt -/
def as_b589 : List ev_V := [(2, 83, 0), (0, 5, 0), (11, 2147483648, 2147483656), (11, 0, 4294967295)]
def E_b589 : e2_E := [(2147483648, 2147583648, 0, 0), (2147483648, 2147483656, 1, 0), (2147483648, 2147483668, 2, 0)]
noncomputable def f_b589 : ev_H := (bn3607 : e2_Q8)
noncomputable def q_b589_0 : ev_H := (bn3607 : e2_Q8)
noncomputable def rs_b589 : e2_Rs := [((12, 9, 2147483647), q_b589_0)]
noncomputable def s_b589 : e2_Sm := (231, as_b589, E_b589, f_b589, rs_b589)
noncomputable def S_b589 : List e2_Sm := []
noncomputable def I_b589 : List e2_In := [(215, 2, e2x_215), (216, 1, e2x_216), (217, 1, e2x_217), (225, 5, e2x_225), (226, 3, e2x_226), (227, 2, e2x_227)]
set_option maxRecDepth 1000000 in
theorem co_b589 : e2_okSB E_b589.length as_b589 f_b589 rs_b589 = true := by decide +kernel
def al_b589_0 : List ev_V := [(2, 83, 0), (0, 5, 0), (11, 2147483648, 2147483656), (11, 0, 4294967295), (1, 3, 4294967296), (9, 0, 0)]
def E_b589_0 : e2_E := [(2147483648, 2147583648, 0, 0), (2147483648, 2147483656, 1, 0), (2147483648, 2147483668, 2, 0), (2147483648, 2147483656, 3, 0)]
noncomputable def h_b589_0 : ev_H := (bn3607 : e2_Q8)
noncomputable def cl_b589_e : List (Nat × e2_S) := [(3, e2_cutL (al_b589_0.set 4 (11, 2147483648, 2147483656)) 3 (E_b589_0.take 3) h_b589_0)]
set_option maxRecDepth 1000000 in
theorem ck_b589_e : e2_run (e2_cal S_b589 I_b589 4000 2) (e2_fin rs_b589) e2x_231 (e2_bpL cl_b589_e) (e2_cutA cl_b589_e) 4000 (e2_seek e2x_231 0) (e2_al 6 as_b589) [] E_b589 f_b589 = true := by decide +kernel
noncomputable def cl_b589_0 : List (Nat × e2_S) := [(3, e2_cutL (al_b589_0.set 4 (13, 11, 2147483656)) 3 (E_b589_0.take 3) h_b589_0)]
set_option maxRecDepth 1000000 in
theorem ck_b589_0 : e2_runM (e2_cal S_b589 I_b589 4000 2) (e2_fin rs_b589) e2x_231 (e2_bpL cl_b589_0) (e2_cutA cl_b589_0) 4000 (e2_seek e2x_231 3) al_b589_0 [] E_b589_0 h_b589_0 = true := by decide +kernel
set_option maxRecDepth 1000000 in
theorem ci_b589_0 : e2_idl 3 (al_b589_0.set 4 (9, 0, 0)) = true := by decide +kernel
set_option maxRecDepth 1000000 in
theorem cj_b589_0 : e2_idh 3 8 h_b589_0 = true := by decide +kernel
theorem cs_b589 (hen : en_ok) (l : Launch) : e2_smOk l 3 s_b589 := by
  refine e2_conG (H := 0) (n := 2) (C := evd_231) (S := S_b589) (I := I_b589) (fuel := 4000) hen ei_231 e2_fz (e2_fa ein_215 (e2_fa ein_216 (e2_fa ein_217 (e2_fa ein_225 (e2_fa ein_226 (e2_fa ein_227 e2_fz)))))) (by decide) co_b589 fun M d _ hC hcall p e R s m args below meth c Q D cA A ads r0 ha hl0 => ?_
  have L_0 : e2_gdM M p l e R s m args below meth c Q D cA A ads r0 3 al_b589_0 [] E_b589_0 h_b589_0 := by
    refine e2_indL (u := 3) (j := 4) (lo := 2147483648) (hi := 2147483656) (b := 3) (dd := 0) hl0 (by decide) rfl rfl (Or.inr ⟨rfl, rfl⟩) rfl ci_b589_0 cj_b589_0 ?_
    intro r_0 k_0 hk_0 hp_0 hs_0 hn_0
    have hl_0 : r_0.length ≤ 4 := hs_0.len rfl
    have ha_0 := ha.ext hp_0
    exact e2_fromM hen ha_0 hcall (e2_cutA_ok (e2_fa (fun al st E h hc => hn_0 al st E h hc) e2_fz)) (hC [3]) (X := e2x_231) ex2_231 3 ck_b589_0
  have EN_0 := e2_entL (u := 3) (j := 4) (lo := 2147483648) (hi := 2147483656) hl0 rfl rfl rfl ci_b589_0 cj_b589_0 L_0
  exact e2_from hen ha hcall (e2_cutA_ok (e2_fa (fun al st E h hc => EN_0 al st E h hc) e2_fz)) (hC [3]) (X := e2x_231) ex2_231 0 ck_b589_e
/-! b590 X10_nextAt -/
def as_b590 : List ev_V := [(2, 83, 0), (0, 6, 0), (11, 2147483648, 2147483656), (11, 0, 4294967295)]
def E_b590 : e2_E := [(2147483648, 2147583648, 0, 0), (2147483648, 2147483656, 1, 0), (2147483648, 2147483668, 2, 0)]
noncomputable def f_b590 : ev_H := (bn3607 : e2_Q8)
noncomputable def q_b590_0 : ev_H := (bn3607 : e2_Q8)
noncomputable def rs_b590 : e2_Rs := [((12, 9, 2147483647), q_b590_0)]
noncomputable def s_b590 : e2_Sm := (231, as_b590, E_b590, f_b590, rs_b590)
noncomputable def S_b590 : List e2_Sm := []
noncomputable def I_b590 : List e2_In := [(215, 2, e2x_215), (216, 1, e2x_216), (217, 1, e2x_217), (225, 5, e2x_225), (226, 3, e2x_226), (227, 2, e2x_227)]
set_option maxRecDepth 1000000 in
theorem co_b590 : e2_okSB E_b590.length as_b590 f_b590 rs_b590 = true := by decide +kernel
def al_b590_0 : List ev_V := [(2, 83, 0), (0, 6, 0), (11, 2147483648, 2147483656), (11, 0, 4294967295), (1, 3, 4294967296), (9, 0, 0)]
def E_b590_0 : e2_E := [(2147483648, 2147583648, 0, 0), (2147483648, 2147483656, 1, 0), (2147483648, 2147483668, 2, 0), (2147483648, 2147483656, 3, 0)]
noncomputable def h_b590_0 : ev_H := (bn3607 : e2_Q8)
noncomputable def cl_b590_e : List (Nat × e2_S) := [(3, e2_cutL (al_b590_0.set 4 (11, 2147483648, 2147483656)) 3 (E_b590_0.take 3) h_b590_0)]
set_option maxRecDepth 1000000 in
theorem ck_b590_e : e2_run (e2_cal S_b590 I_b590 4000 2) (e2_fin rs_b590) e2x_231 (e2_bpL cl_b590_e) (e2_cutA cl_b590_e) 4000 (e2_seek e2x_231 0) (e2_al 6 as_b590) [] E_b590 f_b590 = true := by decide +kernel
noncomputable def cl_b590_0 : List (Nat × e2_S) := [(3, e2_cutL (al_b590_0.set 4 (13, 11, 2147483656)) 3 (E_b590_0.take 3) h_b590_0)]
set_option maxRecDepth 1000000 in
theorem ck_b590_0 : e2_runM (e2_cal S_b590 I_b590 4000 2) (e2_fin rs_b590) e2x_231 (e2_bpL cl_b590_0) (e2_cutA cl_b590_0) 4000 (e2_seek e2x_231 3) al_b590_0 [] E_b590_0 h_b590_0 = true := by decide +kernel
set_option maxRecDepth 1000000 in
theorem ci_b590_0 : e2_idl 3 (al_b590_0.set 4 (9, 0, 0)) = true := by decide +kernel
set_option maxRecDepth 1000000 in
theorem cj_b590_0 : e2_idh 3 8 h_b590_0 = true := by decide +kernel
theorem cs_b590 (hen : en_ok) (l : Launch) : e2_smOk l 3 s_b590 := by
  refine e2_conG (H := 0) (n := 2) (C := evd_231) (S := S_b590) (I := I_b590) (fuel := 4000) hen ei_231 e2_fz (e2_fa ein_215 (e2_fa ein_216 (e2_fa ein_217 (e2_fa ein_225 (e2_fa ein_226 (e2_fa ein_227 e2_fz)))))) (by decide) co_b590 fun M d _ hC hcall p e R s m args below meth c Q D cA A ads r0 ha hl0 => ?_
  have L_0 : e2_gdM M p l e R s m args below meth c Q D cA A ads r0 3 al_b590_0 [] E_b590_0 h_b590_0 := by
    refine e2_indL (u := 3) (j := 4) (lo := 2147483648) (hi := 2147483656) (b := 3) (dd := 0) hl0 (by decide) rfl rfl (Or.inr ⟨rfl, rfl⟩) rfl ci_b590_0 cj_b590_0 ?_
    intro r_0 k_0 hk_0 hp_0 hs_0 hn_0
    have hl_0 : r_0.length ≤ 4 := hs_0.len rfl
    have ha_0 := ha.ext hp_0
    exact e2_fromM hen ha_0 hcall (e2_cutA_ok (e2_fa (fun al st E h hc => hn_0 al st E h hc) e2_fz)) (hC [3]) (X := e2x_231) ex2_231 3 ck_b590_0
  have EN_0 := e2_entL (u := 3) (j := 4) (lo := 2147483648) (hi := 2147483656) hl0 rfl rfl rfl ci_b590_0 cj_b590_0 L_0
  exact e2_from hen ha hcall (e2_cutA_ok (e2_fa (fun al st E h hc => EN_0 al st E h hc) e2_fz)) (hC [3]) (X := e2x_231) ex2_231 0 ck_b590_e
/-! b591 X10_nextAt -/
def as_b591 : List ev_V := [(2, 83, 0), (0, 7, 0), (11, 2147483648, 2147483656), (11, 0, 4294967295)]
def E_b591 : e2_E := [(2147483648, 2147583648, 0, 0), (2147483648, 2147483656, 1, 0), (2147483648, 2147483668, 2, 0)]
noncomputable def f_b591 : ev_H := (bn3607 : e2_Q8)
noncomputable def q_b591_0 : ev_H := (bn3607 : e2_Q8)
noncomputable def rs_b591 : e2_Rs := [((12, 9, 2147483647), q_b591_0)]
noncomputable def s_b591 : e2_Sm := (231, as_b591, E_b591, f_b591, rs_b591)
noncomputable def S_b591 : List e2_Sm := []
noncomputable def I_b591 : List e2_In := [(215, 2, e2x_215), (216, 1, e2x_216), (217, 1, e2x_217), (225, 5, e2x_225), (226, 3, e2x_226), (227, 2, e2x_227)]
set_option maxRecDepth 1000000 in
theorem co_b591 : e2_okSB E_b591.length as_b591 f_b591 rs_b591 = true := by decide +kernel
def al_b591_0 : List ev_V := [(2, 83, 0), (0, 7, 0), (11, 2147483648, 2147483656), (11, 0, 4294967295), (1, 3, 4294967296), (9, 0, 0)]
def E_b591_0 : e2_E := [(2147483648, 2147583648, 0, 0), (2147483648, 2147483656, 1, 0), (2147483648, 2147483668, 2, 0), (2147483648, 2147483656, 3, 0)]
noncomputable def h_b591_0 : ev_H := (bn3607 : e2_Q8)
noncomputable def cl_b591_e : List (Nat × e2_S) := [(3, e2_cutL (al_b591_0.set 4 (11, 2147483648, 2147483656)) 3 (E_b591_0.take 3) h_b591_0)]
set_option maxRecDepth 1000000 in
theorem ck_b591_e : e2_run (e2_cal S_b591 I_b591 4000 2) (e2_fin rs_b591) e2x_231 (e2_bpL cl_b591_e) (e2_cutA cl_b591_e) 4000 (e2_seek e2x_231 0) (e2_al 6 as_b591) [] E_b591 f_b591 = true := by decide +kernel
noncomputable def cl_b591_0 : List (Nat × e2_S) := [(3, e2_cutL (al_b591_0.set 4 (13, 11, 2147483656)) 3 (E_b591_0.take 3) h_b591_0)]
set_option maxRecDepth 1000000 in
theorem ck_b591_0 : e2_runM (e2_cal S_b591 I_b591 4000 2) (e2_fin rs_b591) e2x_231 (e2_bpL cl_b591_0) (e2_cutA cl_b591_0) 4000 (e2_seek e2x_231 3) al_b591_0 [] E_b591_0 h_b591_0 = true := by decide +kernel
set_option maxRecDepth 1000000 in
theorem ci_b591_0 : e2_idl 3 (al_b591_0.set 4 (9, 0, 0)) = true := by decide +kernel
set_option maxRecDepth 1000000 in
theorem cj_b591_0 : e2_idh 3 8 h_b591_0 = true := by decide +kernel
theorem cs_b591 (hen : en_ok) (l : Launch) : e2_smOk l 3 s_b591 := by
  refine e2_conG (H := 0) (n := 2) (C := evd_231) (S := S_b591) (I := I_b591) (fuel := 4000) hen ei_231 e2_fz (e2_fa ein_215 (e2_fa ein_216 (e2_fa ein_217 (e2_fa ein_225 (e2_fa ein_226 (e2_fa ein_227 e2_fz)))))) (by decide) co_b591 fun M d _ hC hcall p e R s m args below meth c Q D cA A ads r0 ha hl0 => ?_
  have L_0 : e2_gdM M p l e R s m args below meth c Q D cA A ads r0 3 al_b591_0 [] E_b591_0 h_b591_0 := by
    refine e2_indL (u := 3) (j := 4) (lo := 2147483648) (hi := 2147483656) (b := 3) (dd := 0) hl0 (by decide) rfl rfl (Or.inr ⟨rfl, rfl⟩) rfl ci_b591_0 cj_b591_0 ?_
    intro r_0 k_0 hk_0 hp_0 hs_0 hn_0
    have hl_0 : r_0.length ≤ 4 := hs_0.len rfl
    have ha_0 := ha.ext hp_0
    exact e2_fromM hen ha_0 hcall (e2_cutA_ok (e2_fa (fun al st E h hc => hn_0 al st E h hc) e2_fz)) (hC [3]) (X := e2x_231) ex2_231 3 ck_b591_0
  have EN_0 := e2_entL (u := 3) (j := 4) (lo := 2147483648) (hi := 2147483656) hl0 rfl rfl rfl ci_b591_0 cj_b591_0 L_0
  exact e2_from hen ha hcall (e2_cutA_ok (e2_fa (fun al st E h hc => EN_0 al st E h hc) e2_fz)) (hC [3]) (X := e2x_231) ex2_231 0 ck_b591_e
/-! b592 X10_nextAt -/
def as_b592 : List ev_V := [(2, 83, 0), (0, 8, 0), (11, 2147483648, 2147483656), (11, 0, 4294967295)]
def E_b592 : e2_E := [(2147483648, 2147583648, 0, 0), (2147483648, 2147483656, 1, 0), (2147483648, 2147483668, 2, 0)]
noncomputable def f_b592 : ev_H := (bn3607 : e2_Q8)
noncomputable def q_b592_0 : ev_H := (bn3607 : e2_Q8)
noncomputable def rs_b592 : e2_Rs := [((12, 9, 2147483647), q_b592_0)]
noncomputable def s_b592 : e2_Sm := (231, as_b592, E_b592, f_b592, rs_b592)
noncomputable def S_b592 : List e2_Sm := []
noncomputable def I_b592 : List e2_In := [(215, 2, e2x_215), (216, 1, e2x_216), (217, 1, e2x_217), (225, 5, e2x_225), (226, 3, e2x_226), (227, 2, e2x_227)]
set_option maxRecDepth 1000000 in
theorem co_b592 : e2_okSB E_b592.length as_b592 f_b592 rs_b592 = true := by decide +kernel
def al_b592_0 : List ev_V := [(2, 83, 0), (0, 8, 0), (11, 2147483648, 2147483656), (11, 0, 4294967295), (1, 3, 4294967296), (9, 0, 0)]
def E_b592_0 : e2_E := [(2147483648, 2147583648, 0, 0), (2147483648, 2147483656, 1, 0), (2147483648, 2147483668, 2, 0), (2147483648, 2147483656, 3, 0)]
noncomputable def h_b592_0 : ev_H := (bn3607 : e2_Q8)
noncomputable def cl_b592_e : List (Nat × e2_S) := [(3, e2_cutL (al_b592_0.set 4 (11, 2147483648, 2147483656)) 3 (E_b592_0.take 3) h_b592_0)]
set_option maxRecDepth 1000000 in
theorem ck_b592_e : e2_run (e2_cal S_b592 I_b592 4000 2) (e2_fin rs_b592) e2x_231 (e2_bpL cl_b592_e) (e2_cutA cl_b592_e) 4000 (e2_seek e2x_231 0) (e2_al 6 as_b592) [] E_b592 f_b592 = true := by decide +kernel
noncomputable def cl_b592_0 : List (Nat × e2_S) := [(3, e2_cutL (al_b592_0.set 4 (13, 11, 2147483656)) 3 (E_b592_0.take 3) h_b592_0)]
set_option maxRecDepth 1000000 in
theorem ck_b592_0 : e2_runM (e2_cal S_b592 I_b592 4000 2) (e2_fin rs_b592) e2x_231 (e2_bpL cl_b592_0) (e2_cutA cl_b592_0) 4000 (e2_seek e2x_231 3) al_b592_0 [] E_b592_0 h_b592_0 = true := by decide +kernel
set_option maxRecDepth 1000000 in
theorem ci_b592_0 : e2_idl 3 (al_b592_0.set 4 (9, 0, 0)) = true := by decide +kernel
set_option maxRecDepth 1000000 in
theorem cj_b592_0 : e2_idh 3 8 h_b592_0 = true := by decide +kernel
theorem cs_b592 (hen : en_ok) (l : Launch) : e2_smOk l 3 s_b592 := by
  refine e2_conG (H := 0) (n := 2) (C := evd_231) (S := S_b592) (I := I_b592) (fuel := 4000) hen ei_231 e2_fz (e2_fa ein_215 (e2_fa ein_216 (e2_fa ein_217 (e2_fa ein_225 (e2_fa ein_226 (e2_fa ein_227 e2_fz)))))) (by decide) co_b592 fun M d _ hC hcall p e R s m args below meth c Q D cA A ads r0 ha hl0 => ?_
  have L_0 : e2_gdM M p l e R s m args below meth c Q D cA A ads r0 3 al_b592_0 [] E_b592_0 h_b592_0 := by
    refine e2_indL (u := 3) (j := 4) (lo := 2147483648) (hi := 2147483656) (b := 3) (dd := 0) hl0 (by decide) rfl rfl (Or.inr ⟨rfl, rfl⟩) rfl ci_b592_0 cj_b592_0 ?_
    intro r_0 k_0 hk_0 hp_0 hs_0 hn_0
    have hl_0 : r_0.length ≤ 4 := hs_0.len rfl
    have ha_0 := ha.ext hp_0
    exact e2_fromM hen ha_0 hcall (e2_cutA_ok (e2_fa (fun al st E h hc => hn_0 al st E h hc) e2_fz)) (hC [3]) (X := e2x_231) ex2_231 3 ck_b592_0
  have EN_0 := e2_entL (u := 3) (j := 4) (lo := 2147483648) (hi := 2147483656) hl0 rfl rfl rfl ci_b592_0 cj_b592_0 L_0
  exact e2_from hen ha hcall (e2_cutA_ok (e2_fa (fun al st E h hc => EN_0 al st E h hc) e2_fz)) (hC [3]) (X := e2x_231) ex2_231 0 ck_b592_e
/-! b593 X10_nextAt -/
def as_b593 : List ev_V := [(2, 83, 0), (0, 9, 0), (11, 2147483648, 2147483656), (11, 0, 4294967295)]
def E_b593 : e2_E := [(2147483648, 2147583648, 0, 0), (2147483648, 2147483656, 1, 0), (2147483648, 2147483668, 2, 0)]
noncomputable def f_b593 : ev_H := (bn3607 : e2_Q8)
noncomputable def q_b593_0 : ev_H := (bn3607 : e2_Q8)
noncomputable def rs_b593 : e2_Rs := [((12, 9, 2147483647), q_b593_0)]
noncomputable def s_b593 : e2_Sm := (231, as_b593, E_b593, f_b593, rs_b593)
noncomputable def S_b593 : List e2_Sm := []
noncomputable def I_b593 : List e2_In := [(215, 2, e2x_215), (216, 1, e2x_216), (217, 1, e2x_217), (225, 5, e2x_225), (226, 3, e2x_226), (227, 2, e2x_227)]
set_option maxRecDepth 1000000 in
theorem co_b593 : e2_okSB E_b593.length as_b593 f_b593 rs_b593 = true := by decide +kernel
def al_b593_0 : List ev_V := [(2, 83, 0), (0, 9, 0), (11, 2147483648, 2147483656), (11, 0, 4294967295), (1, 3, 4294967296), (9, 0, 0)]
def E_b593_0 : e2_E := [(2147483648, 2147583648, 0, 0), (2147483648, 2147483656, 1, 0), (2147483648, 2147483668, 2, 0), (2147483648, 2147483656, 3, 0)]
noncomputable def h_b593_0 : ev_H := (bn3607 : e2_Q8)
noncomputable def cl_b593_e : List (Nat × e2_S) := [(3, e2_cutL (al_b593_0.set 4 (11, 2147483648, 2147483656)) 3 (E_b593_0.take 3) h_b593_0)]
set_option maxRecDepth 1000000 in
theorem ck_b593_e : e2_run (e2_cal S_b593 I_b593 4000 2) (e2_fin rs_b593) e2x_231 (e2_bpL cl_b593_e) (e2_cutA cl_b593_e) 4000 (e2_seek e2x_231 0) (e2_al 6 as_b593) [] E_b593 f_b593 = true := by decide +kernel
noncomputable def cl_b593_0 : List (Nat × e2_S) := [(3, e2_cutL (al_b593_0.set 4 (13, 11, 2147483656)) 3 (E_b593_0.take 3) h_b593_0)]
set_option maxRecDepth 1000000 in
theorem ck_b593_0 : e2_runM (e2_cal S_b593 I_b593 4000 2) (e2_fin rs_b593) e2x_231 (e2_bpL cl_b593_0) (e2_cutA cl_b593_0) 4000 (e2_seek e2x_231 3) al_b593_0 [] E_b593_0 h_b593_0 = true := by decide +kernel
set_option maxRecDepth 1000000 in
theorem ci_b593_0 : e2_idl 3 (al_b593_0.set 4 (9, 0, 0)) = true := by decide +kernel
set_option maxRecDepth 1000000 in
theorem cj_b593_0 : e2_idh 3 8 h_b593_0 = true := by decide +kernel
theorem cs_b593 (hen : en_ok) (l : Launch) : e2_smOk l 3 s_b593 := by
  refine e2_conG (H := 0) (n := 2) (C := evd_231) (S := S_b593) (I := I_b593) (fuel := 4000) hen ei_231 e2_fz (e2_fa ein_215 (e2_fa ein_216 (e2_fa ein_217 (e2_fa ein_225 (e2_fa ein_226 (e2_fa ein_227 e2_fz)))))) (by decide) co_b593 fun M d _ hC hcall p e R s m args below meth c Q D cA A ads r0 ha hl0 => ?_
  have L_0 : e2_gdM M p l e R s m args below meth c Q D cA A ads r0 3 al_b593_0 [] E_b593_0 h_b593_0 := by
    refine e2_indL (u := 3) (j := 4) (lo := 2147483648) (hi := 2147483656) (b := 3) (dd := 0) hl0 (by decide) rfl rfl (Or.inr ⟨rfl, rfl⟩) rfl ci_b593_0 cj_b593_0 ?_
    intro r_0 k_0 hk_0 hp_0 hs_0 hn_0
    have hl_0 : r_0.length ≤ 4 := hs_0.len rfl
    have ha_0 := ha.ext hp_0
    exact e2_fromM hen ha_0 hcall (e2_cutA_ok (e2_fa (fun al st E h hc => hn_0 al st E h hc) e2_fz)) (hC [3]) (X := e2x_231) ex2_231 3 ck_b593_0
  have EN_0 := e2_entL (u := 3) (j := 4) (lo := 2147483648) (hi := 2147483656) hl0 rfl rfl rfl ci_b593_0 cj_b593_0 L_0
  exact e2_from hen ha hcall (e2_cutA_ok (e2_fa (fun al st E h hc => EN_0 al st E h hc) e2_fz)) (hC [3]) (X := e2x_231) ex2_231 0 ck_b593_e
/-! b594 X10_read -/
def as_b594 : List ev_V := [(2, 83, 0), (11, 0, 4294967295)]
def E_b594 : e2_E := [(2147483648, 2147583648, 0, 0), (2147483648, 2147483648, 1, 0)]
def bc260 : ev_C := (54, [(0, 20, 0), (11, 2147483648, 2147483655)])
def bn3608 : e2_Q1 := (bc260, bc3)
def bn3609 : e2_Q2 := (bn41, bn3608)
def bn3610 : e2_Q3 := (bn40, bn3609)
def bn3611 : e2_Q4 := (bn754, bn3610)
def bn3612 : e2_Q5 := (bn3611, bn337)
def bn3613 : e2_Q6 := (bn3580, bn3612)
def bn3614 : e2_Q7 := (bn3613, bn3587)
def bc261 : ev_C := (50, [(11, 2147483648, 2147483654), (11, 2147483648, 2147483654), (11, 2147483648, 2147483654), (11, 2147483648, 2147483654), (11, 2147483648, 2147483654), (11, 2147483648, 2147483654), (11, 2147483648, 2147483654), (11, 2147483648, 2147483654), (11, 2147483648, 2147483654), (11, 2147483648, 2147483654), (11, 2147483648, 2147483654), (11, 2147483648, 2147483654), (11, 2147483648, 2147483654), (11, 2147483648, 2147483654), (11, 2147483648, 2147483654), (11, 2147483648, 2147483654)])
def bn3615 : e2_Q1 := (bc261, bc3)
def bn3616 : e2_Q2 := (bn130, bn3615)
def bn3617 : e2_Q3 := (bn129, bn3616)
def bn3618 : e2_Q4 := (bn3617, bn3573)
def bn3619 : e2_Q5 := (bn3618, bn156)
def bc262 : ev_C := (54, [(0, 20, 0), (11, 2147483648, 2147483667)])
def bn3620 : e2_Q1 := (bc262, bc3)
def bn3621 : e2_Q2 := (bn168, bn3620)
def bn3622 : e2_Q3 := (bn714, bn3621)
def bn3623 : e2_Q4 := (bn164, bn3622)
def bn3624 : e2_Q5 := (bn3623, bn355)
def bn3625 : e2_Q6 := (bn3619, bn3624)
def bn3626 : e2_Q7 := (bn3625, bn3594)
def bn3627 : e2_Q8 := (bn3614, bn3626)
noncomputable def f_b594 : ev_H := (bn3627 : e2_Q8)
def bc263 : ev_C := (10, [(0, 0, 0), (2, 88, 0), (2, 115, 0), (2, 114, 0), (2, 86, 0), (2, 112, 0), (11, 2147483648, 2147483688), (2, 118, 0), (2, 120, 0), (2, 131, 0), (2, 91, 0), (0, 0, 0), (2, 123, 0), (11, 2147483648, 2147483649), (11, 2147483648, 2147485248), (2, 87, 0), (2, 84, 0), (2, 122, 0), (2, 100, 0), (2, 132, 0), (11, 2147483648, 2147483668), (11, 2147483648, 2147485248), (1, 0, 4294967296), (11, 2147483648, 2147483653), (11, 2147483648, 2147485248), (2, 93, 0), (2, 104, 0), (11, 2147483648, 2147483678), (2, 89, 0), (2, 92, 0), (2, 119, 0), (2, 90, 0), (2, 94, 0), (2, 103, 0), (11, 2147483648, 2147483688), (11, 2147483648, 2147549184), (11, 0, 4294967295), (11, 2147483648, 2147485249), (11, 2147483648, 2147483653), (11, 2147483648, 2147483668), (2, 85, 0), (11, 0, 4294967295), (5, 0, 0), (2, 95, 0), (2, 96, 0), (2, 97, 0), (2, 98, 0), (2, 99, 0), (2, 101, 0), (2, 102, 0), (2, 105, 0), (2, 106, 0), (2, 107, 0), (2, 108, 0), (2, 109, 0), (2, 110, 0), (2, 111, 0), (11, 2147483648, 2147484768), (11, 2147482048, 2147483655), (11, 2147483648, 2147483738), (11, 2147483648, 2147483678), (11, 0, 4294967295), (11, 0, 4294967295), (11, 0, 4294967295), (11, 0, 4294967295), (11, 0, 4294967295), (2, 113, 0), (2, 116, 0), (2, 117, 0), (2, 121, 0), (11, 0, 4294967295), (11, 0, 4294967295), (2, 124, 0), (2, 125, 0), (11, 0, 4294967295), (2, 126, 0), (2, 127, 0), (2, 128, 0), (2, 129, 0), (2, 130, 0)])
def bn3628 : e2_Q1 := (bc263, bc3)
def bn3629 : e2_Q2 := (bn196, bn3628)
def bn3630 : e2_Q3 := (bn3629, bn3590)
def bn3631 : e2_Q4 := (bn195, bn3630)
def bn3632 : e2_Q5 := (bn3631, bn365)
def bn3633 : e2_Q6 := (bn3632, bn250)
def bn3634 : e2_Q7 := (bn3625, bn3633)
def bn3635 : e2_Q8 := (bn3614, bn3634)
noncomputable def q_b594_0 : ev_H := (bn3635 : e2_Q8)
noncomputable def rs_b594 : e2_Rs := [((11, 2147483647, 2147483648), q_b594_0)]
noncomputable def s_b594 : e2_Sm := (230, as_b594, E_b594, f_b594, rs_b594)
noncomputable def S_b594 : List e2_Sm := [s_b554, s_b555, s_b556, s_b557, s_b558, s_b559, s_b560, s_b561, s_b562, s_b563, s_b564, s_b565, s_b566, s_b567, s_b568, s_b569, s_b570, s_b571, s_b572, s_b573]
noncomputable def I_b594 : List e2_In := [(216, 1, e2x_216), (217, 1, e2x_217), (227, 2, e2x_227)]
noncomputable def Eb_b574 : e2_E := [(2147483648, 2147583648, 0, 0), (2147483648, 2147483656, 1, 0)]
set_option maxRecDepth 1000000 in
theorem cog_b574 : e2_okGB 2 83 11 as_b574 f_b574 rs_b574 = true := by decide +kernel
noncomputable def Eb_b575 : e2_E := [(2147483648, 2147583648, 0, 0), (2147483648, 2147483656, 1, 0)]
set_option maxRecDepth 1000000 in
theorem cog_b575 : e2_okGB 2 83 11 as_b575 f_b575 rs_b575 = true := by decide +kernel
noncomputable def Eb_b576 : e2_E := [(2147483648, 2147583648, 0, 0), (2147483648, 2147483656, 1, 0)]
set_option maxRecDepth 1000000 in
theorem cog_b576 : e2_okGB 2 83 11 as_b576 f_b576 rs_b576 = true := by decide +kernel
noncomputable def Eb_b577 : e2_E := [(2147483648, 2147583648, 0, 0), (2147483648, 2147483656, 1, 0)]
set_option maxRecDepth 1000000 in
theorem cog_b577 : e2_okGB 2 83 11 as_b577 f_b577 rs_b577 = true := by decide +kernel
noncomputable def Eb_b578 : e2_E := [(2147483648, 2147583648, 0, 0), (2147483648, 2147483656, 1, 0)]
set_option maxRecDepth 1000000 in
theorem cog_b578 : e2_okGB 2 83 11 as_b578 f_b578 rs_b578 = true := by decide +kernel
noncomputable def Eb_b579 : e2_E := [(2147483648, 2147583648, 0, 0), (2147483648, 2147483656, 1, 0)]
set_option maxRecDepth 1000000 in
theorem cog_b579 : e2_okGB 2 83 11 as_b579 f_b579 rs_b579 = true := by decide +kernel
noncomputable def Eb_b580 : e2_E := [(2147483648, 2147583648, 0, 0), (2147483648, 2147483656, 1, 0)]
set_option maxRecDepth 1000000 in
theorem cog_b580 : e2_okGB 2 83 11 as_b580 f_b580 rs_b580 = true := by decide +kernel
noncomputable def Eb_b581 : e2_E := [(2147483648, 2147583648, 0, 0), (2147483648, 2147483656, 1, 0)]
set_option maxRecDepth 1000000 in
theorem cog_b581 : e2_okGB 2 83 11 as_b581 f_b581 rs_b581 = true := by decide +kernel
noncomputable def Eb_b582 : e2_E := [(2147483648, 2147583648, 0, 0), (2147483648, 2147483656, 1, 0)]
set_option maxRecDepth 1000000 in
theorem cog_b582 : e2_okGB 2 83 11 as_b582 f_b582 rs_b582 = true := by decide +kernel
noncomputable def Eb_b583 : e2_E := [(2147483648, 2147583648, 0, 0), (2147483648, 2147483656, 1, 0)]
set_option maxRecDepth 1000000 in
theorem cog_b583 : e2_okGB 2 83 11 as_b583 f_b583 rs_b583 = true := by decide +kernel
noncomputable def Eb_b584 : e2_E := [(2147483648, 2147583648, 0, 0), (2147483648, 2147483656, 1, 0)]
set_option maxRecDepth 1000000 in
theorem cog_b584 : e2_okGB 2 83 11 as_b584 f_b584 rs_b584 = true := by decide +kernel
noncomputable def Eb_b585 : e2_E := [(2147483648, 2147583648, 0, 0), (2147483648, 2147483656, 1, 0)]
set_option maxRecDepth 1000000 in
theorem cog_b585 : e2_okGB 2 83 11 as_b585 f_b585 rs_b585 = true := by decide +kernel
noncomputable def Eb_b586 : e2_E := [(2147483648, 2147583648, 0, 0), (2147483648, 2147483656, 1, 0)]
set_option maxRecDepth 1000000 in
theorem cog_b586 : e2_okGB 2 83 11 as_b586 f_b586 rs_b586 = true := by decide +kernel
noncomputable def Eb_b587 : e2_E := [(2147483648, 2147583648, 0, 0), (2147483648, 2147483656, 1, 0)]
set_option maxRecDepth 1000000 in
theorem cog_b587 : e2_okGB 2 83 11 as_b587 f_b587 rs_b587 = true := by decide +kernel
noncomputable def Eb_b588 : e2_E := [(2147483648, 2147583648, 0, 0), (2147483648, 2147483656, 1, 0)]
set_option maxRecDepth 1000000 in
theorem cog_b588 : e2_okGB 2 83 11 as_b588 f_b588 rs_b588 = true := by decide +kernel
noncomputable def Eb_b589 : e2_E := [(2147483648, 2147583648, 0, 0), (2147483648, 2147483656, 1, 0)]
set_option maxRecDepth 1000000 in
theorem cog_b589 : e2_okGB 2 83 11 as_b589 f_b589 rs_b589 = true := by decide +kernel
noncomputable def Eb_b590 : e2_E := [(2147483648, 2147583648, 0, 0), (2147483648, 2147483656, 1, 0)]
set_option maxRecDepth 1000000 in
theorem cog_b590 : e2_okGB 2 83 11 as_b590 f_b590 rs_b590 = true := by decide +kernel
noncomputable def Eb_b591 : e2_E := [(2147483648, 2147583648, 0, 0), (2147483648, 2147483656, 1, 0)]
set_option maxRecDepth 1000000 in
theorem cog_b591 : e2_okGB 2 83 11 as_b591 f_b591 rs_b591 = true := by decide +kernel
noncomputable def Eb_b592 : e2_E := [(2147483648, 2147583648, 0, 0), (2147483648, 2147483656, 1, 0)]
set_option maxRecDepth 1000000 in
theorem cog_b592 : e2_okGB 2 83 11 as_b592 f_b592 rs_b592 = true := by decide +kernel
noncomputable def Eb_b593 : e2_E := [(2147483648, 2147583648, 0, 0), (2147483648, 2147483656, 1, 0)]
set_option maxRecDepth 1000000 in
theorem cog_b593 : e2_okGB 2 83 11 as_b593 f_b593 rs_b593 = true := by decide +kernel
set_option maxRecDepth 1000000 in
theorem co_b594 : e2_okSB E_b594.length as_b594 f_b594 rs_b594 = true := by decide +kernel
def al_b594_21 : List ev_V := [(2, 83, 0), (11, 0, 4294967295), (1, 2, 4294967296), (9, 0, 0), (9, 0, 0)]
def E_b594_21 : e2_E := [(2147483648, 2147583648, 0, 0), (2147483648, 2147483648, 1, 0), (2147483648, 2147483657, 2, 0)]
noncomputable def h_b594_21 : ev_H := (bn3627 : e2_Q8)
def al_b594_22 : List ev_V := [(2, 83, 0), (11, 0, 4294967295), (1, 2, 4294967296), (9, 0, 0), (9, 0, 0)]
def E_b594_22 : e2_E := [(2147483648, 2147583648, 0, 0), (2147483648, 2147483648, 1, 0), (2147483647, 2147483667, 2, 0)]
noncomputable def h_b594_22 : ev_H := (bn3627 : e2_Q8)
def al_b594_23 : List ev_V := [(2, 83, 0), (11, 0, 4294967295), (1, 2, 4294967296), (1, 3, 4294967296), (9, 0, 0)]
def E_b594_23 : e2_E := [(2147483648, 2147583648, 0, 0), (2147483648, 2147483648, 1, 0), (2147483648, 2147483667, 2, 0), (2147483648, 2147483657, 3, 0)]
noncomputable def h_b594_23 : ev_H := (bn3627 : e2_Q8)
noncomputable def h_b594_0 : ev_H := (bn3635 : e2_Q8)
noncomputable def h_b594_1 : ev_H := (bn3635 : e2_Q8)
noncomputable def h_b594_2 : ev_H := (bn3635 : e2_Q8)
noncomputable def h_b594_3 : ev_H := (bn3635 : e2_Q8)
noncomputable def h_b594_4 : ev_H := (bn3635 : e2_Q8)
noncomputable def h_b594_5 : ev_H := (bn3635 : e2_Q8)
noncomputable def h_b594_6 : ev_H := (bn3635 : e2_Q8)
noncomputable def h_b594_7 : ev_H := (bn3635 : e2_Q8)
noncomputable def h_b594_8 : ev_H := (bn3635 : e2_Q8)
noncomputable def h_b594_9 : ev_H := (bn3635 : e2_Q8)
noncomputable def h_b594_10 : ev_H := (bn3635 : e2_Q8)
noncomputable def h_b594_11 : ev_H := (bn3635 : e2_Q8)
noncomputable def h_b594_12 : ev_H := (bn3635 : e2_Q8)
noncomputable def h_b594_13 : ev_H := (bn3635 : e2_Q8)
noncomputable def h_b594_14 : ev_H := (bn3635 : e2_Q8)
noncomputable def h_b594_15 : ev_H := (bn3635 : e2_Q8)
noncomputable def h_b594_16 : ev_H := (bn3635 : e2_Q8)
noncomputable def h_b594_17 : ev_H := (bn3635 : e2_Q8)
noncomputable def h_b594_18 : ev_H := (bn3635 : e2_Q8)
noncomputable def h_b594_19 : ev_H := (bn3635 : e2_Q8)
noncomputable def h_b594_20 : ev_H := (bn3635 : e2_Q8)
noncomputable def cu_b594_120 : List e2_Cu := [([(2, 83, 0), (11, 0, 4294967295), (0, 0, 0), (0, 8, 0), (9, 0, 0)], [(2147483648, 2147583648, 0, 0), (2147483648, 2147483648, 1, 0)], h_b594_0),
  ([(2, 83, 0), (11, 0, 4294967295), (0, 1, 0), (0, 8, 0), (0, 4294967295, 0)], [(2147483648, 2147583648, 0, 0), (2147483648, 2147483648, 1, 0)], h_b594_1),
  ([(2, 83, 0), (11, 0, 4294967295), (0, 2, 0), (0, 8, 0), (0, 4294967295, 0)], [(2147483648, 2147583648, 0, 0), (2147483648, 2147483648, 1, 0)], h_b594_2),
  ([(2, 83, 0), (11, 0, 4294967295), (0, 3, 0), (0, 8, 0), (0, 4294967295, 0)], [(2147483648, 2147583648, 0, 0), (2147483648, 2147483648, 1, 0)], h_b594_3),
  ([(2, 83, 0), (11, 0, 4294967295), (0, 4, 0), (0, 8, 0), (0, 4294967295, 0)], [(2147483648, 2147583648, 0, 0), (2147483648, 2147483648, 1, 0)], h_b594_4),
  ([(2, 83, 0), (11, 0, 4294967295), (0, 5, 0), (0, 8, 0), (0, 4294967295, 0)], [(2147483648, 2147583648, 0, 0), (2147483648, 2147483648, 1, 0)], h_b594_5),
  ([(2, 83, 0), (11, 0, 4294967295), (0, 6, 0), (0, 8, 0), (0, 4294967295, 0)], [(2147483648, 2147583648, 0, 0), (2147483648, 2147483648, 1, 0)], h_b594_6),
  ([(2, 83, 0), (11, 0, 4294967295), (0, 7, 0), (0, 8, 0), (0, 4294967295, 0)], [(2147483648, 2147583648, 0, 0), (2147483648, 2147483648, 1, 0)], h_b594_7),
  ([(2, 83, 0), (11, 0, 4294967295), (0, 8, 0), (0, 8, 0), (0, 4294967295, 0)], [(2147483648, 2147583648, 0, 0), (2147483648, 2147483648, 1, 0)], h_b594_8),
  ([(2, 83, 0), (11, 0, 4294967295), (0, 9, 0), (0, 8, 0), (0, 4294967295, 0)], [(2147483648, 2147583648, 0, 0), (2147483648, 2147483648, 1, 0)], h_b594_9),
  ([(2, 83, 0), (11, 0, 4294967295), (0, 10, 0), (0, 8, 0), (0, 4294967295, 0)], [(2147483648, 2147583648, 0, 0), (2147483648, 2147483648, 1, 0)], h_b594_10),
  ([(2, 83, 0), (11, 0, 4294967295), (0, 11, 0), (0, 8, 0), (0, 4294967295, 0)], [(2147483648, 2147583648, 0, 0), (2147483648, 2147483648, 1, 0)], h_b594_11),
  ([(2, 83, 0), (11, 0, 4294967295), (0, 12, 0), (0, 8, 0), (0, 4294967295, 0)], [(2147483648, 2147583648, 0, 0), (2147483648, 2147483648, 1, 0)], h_b594_12),
  ([(2, 83, 0), (11, 0, 4294967295), (0, 13, 0), (0, 8, 0), (0, 4294967295, 0)], [(2147483648, 2147583648, 0, 0), (2147483648, 2147483648, 1, 0)], h_b594_13),
  ([(2, 83, 0), (11, 0, 4294967295), (0, 14, 0), (0, 8, 0), (0, 4294967295, 0)], [(2147483648, 2147583648, 0, 0), (2147483648, 2147483648, 1, 0)], h_b594_14),
  ([(2, 83, 0), (11, 0, 4294967295), (0, 15, 0), (0, 8, 0), (0, 4294967295, 0)], [(2147483648, 2147583648, 0, 0), (2147483648, 2147483648, 1, 0)], h_b594_15),
  ([(2, 83, 0), (11, 0, 4294967295), (0, 16, 0), (0, 8, 0), (0, 4294967295, 0)], [(2147483648, 2147583648, 0, 0), (2147483648, 2147483648, 1, 0)], h_b594_16),
  ([(2, 83, 0), (11, 0, 4294967295), (0, 17, 0), (0, 8, 0), (0, 4294967295, 0)], [(2147483648, 2147583648, 0, 0), (2147483648, 2147483648, 1, 0)], h_b594_17),
  ([(2, 83, 0), (11, 0, 4294967295), (0, 18, 0), (0, 8, 0), (0, 4294967295, 0)], [(2147483648, 2147583648, 0, 0), (2147483648, 2147483648, 1, 0)], h_b594_18),
  ([(2, 83, 0), (11, 0, 4294967295), (0, 19, 0), (0, 8, 0), (0, 4294967295, 0)], [(2147483648, 2147583648, 0, 0), (2147483648, 2147483648, 1, 0)], h_b594_19),
  ([(2, 83, 0), (11, 0, 4294967295), (0, 20, 0), (0, 8, 0), (0, 4294967295, 0)], [(2147483648, 2147583648, 0, 0), (2147483648, 2147483648, 1, 0)], h_b594_20)]
noncomputable def cl_b594_e : List (Nat × e2_S) := [(2, e2_cutL (al_b594_21.set 2 (11, 2147483648, 2147483657)) 2 (E_b594_21.take 2) h_b594_21)]
set_option maxRecDepth 1000000 in
theorem ck_b594_e : e2_run (e2_orG 231 83 11 2 2147483648 2147483668 as_b593 Eb_b593 f_b593 rs_b593 (e2_orG 231 83 11 2 2147483648 2147483668 as_b592 Eb_b592 f_b592 rs_b592 (e2_orG 231 83 11 2 2147483648 2147483668 as_b591 Eb_b591 f_b591 rs_b591 (e2_orG 231 83 11 2 2147483648 2147483668 as_b590 Eb_b590 f_b590 rs_b590 (e2_orG 231 83 11 2 2147483648 2147483668 as_b589 Eb_b589 f_b589 rs_b589 (e2_orG 231 83 11 2 2147483648 2147483668 as_b588 Eb_b588 f_b588 rs_b588 (e2_orG 231 83 11 2 2147483648 2147483668 as_b587 Eb_b587 f_b587 rs_b587 (e2_orG 231 83 11 2 2147483648 2147483668 as_b586 Eb_b586 f_b586 rs_b586 (e2_orG 231 83 11 2 2147483648 2147483668 as_b585 Eb_b585 f_b585 rs_b585 (e2_orG 231 83 11 2 2147483648 2147483668 as_b584 Eb_b584 f_b584 rs_b584 (e2_orG 231 83 11 2 2147483648 2147483668 as_b583 Eb_b583 f_b583 rs_b583 (e2_orG 231 83 11 2 2147483648 2147483668 as_b582 Eb_b582 f_b582 rs_b582 (e2_orG 231 83 11 2 2147483648 2147483668 as_b581 Eb_b581 f_b581 rs_b581 (e2_orG 231 83 11 2 2147483648 2147483668 as_b580 Eb_b580 f_b580 rs_b580 (e2_orG 231 83 11 2 2147483648 2147483668 as_b579 Eb_b579 f_b579 rs_b579 (e2_orG 231 83 11 2 2147483648 2147483668 as_b578 Eb_b578 f_b578 rs_b578 (e2_orG 231 83 11 2 2147483648 2147483668 as_b577 Eb_b577 f_b577 rs_b577 (e2_orG 231 83 11 2 2147483648 2147483668 as_b576 Eb_b576 f_b576 rs_b576 (e2_orG 231 83 11 2 2147483648 2147483668 as_b575 Eb_b575 f_b575 rs_b575 (e2_orG 231 83 11 2 2147483648 2147483668 as_b574 Eb_b574 f_b574 rs_b574 (e2_cal S_b594 I_b594 4000 1))))))))))))))))))))) (e2_fin rs_b594) e2x_230 (e2_bpL cl_b594_e) (e2_cutA cl_b594_e) 4000 (e2_seek e2x_230 0) (e2_al 5 as_b594) [] E_b594 f_b594 = true := by decide +kernel
noncomputable def cl_b594_21 : List (Nat × e2_S) := [(2, e2_cutL (al_b594_21.set 2 (13, 10, 2147483657)) 2 (E_b594_21.take 2) h_b594_21),
  (49, e2_cutL (al_b594_22.set 2 (11, 2147483647, 2147483667)) 2 (E_b594_22.take 2) h_b594_22)]
set_option maxRecDepth 1000000 in
theorem ck_b594_21 : e2_runM (e2_orG 231 83 11 2 2147483648 2147483668 as_b593 Eb_b593 f_b593 rs_b593 (e2_orG 231 83 11 2 2147483648 2147483668 as_b592 Eb_b592 f_b592 rs_b592 (e2_orG 231 83 11 2 2147483648 2147483668 as_b591 Eb_b591 f_b591 rs_b591 (e2_orG 231 83 11 2 2147483648 2147483668 as_b590 Eb_b590 f_b590 rs_b590 (e2_orG 231 83 11 2 2147483648 2147483668 as_b589 Eb_b589 f_b589 rs_b589 (e2_orG 231 83 11 2 2147483648 2147483668 as_b588 Eb_b588 f_b588 rs_b588 (e2_orG 231 83 11 2 2147483648 2147483668 as_b587 Eb_b587 f_b587 rs_b587 (e2_orG 231 83 11 2 2147483648 2147483668 as_b586 Eb_b586 f_b586 rs_b586 (e2_orG 231 83 11 2 2147483648 2147483668 as_b585 Eb_b585 f_b585 rs_b585 (e2_orG 231 83 11 2 2147483648 2147483668 as_b584 Eb_b584 f_b584 rs_b584 (e2_orG 231 83 11 2 2147483648 2147483668 as_b583 Eb_b583 f_b583 rs_b583 (e2_orG 231 83 11 2 2147483648 2147483668 as_b582 Eb_b582 f_b582 rs_b582 (e2_orG 231 83 11 2 2147483648 2147483668 as_b581 Eb_b581 f_b581 rs_b581 (e2_orG 231 83 11 2 2147483648 2147483668 as_b580 Eb_b580 f_b580 rs_b580 (e2_orG 231 83 11 2 2147483648 2147483668 as_b579 Eb_b579 f_b579 rs_b579 (e2_orG 231 83 11 2 2147483648 2147483668 as_b578 Eb_b578 f_b578 rs_b578 (e2_orG 231 83 11 2 2147483648 2147483668 as_b577 Eb_b577 f_b577 rs_b577 (e2_orG 231 83 11 2 2147483648 2147483668 as_b576 Eb_b576 f_b576 rs_b576 (e2_orG 231 83 11 2 2147483648 2147483668 as_b575 Eb_b575 f_b575 rs_b575 (e2_orG 231 83 11 2 2147483648 2147483668 as_b574 Eb_b574 f_b574 rs_b574 (e2_cal S_b594 I_b594 4000 1))))))))))))))))))))) (e2_fin rs_b594) e2x_230 (e2_bpL cl_b594_21) (e2_cutA cl_b594_21) 4000 (e2_seek e2x_230 2) al_b594_21 [] E_b594_21 h_b594_21 = true := by decide +kernel
set_option maxRecDepth 1000000 in
theorem ci_b594_21 : e2_idl 2 (al_b594_21.set 2 (9, 0, 0)) = true := by decide +kernel
set_option maxRecDepth 1000000 in
theorem cj_b594_21 : e2_idh 2 8 h_b594_21 = true := by decide +kernel
noncomputable def cl_b594_22 : List (Nat × e2_S) := [(120, e2_cutS cu_b594_120),
  (55, e2_cutL (al_b594_23.set 3 (11, 2147483648, 2147483657)) 3 (E_b594_23.take 3) h_b594_23)]
set_option maxRecDepth 1000000 in
theorem ck_b594_22 : e2_runM (e2_orG 231 83 11 2 2147483648 2147483668 as_b593 Eb_b593 f_b593 rs_b593 (e2_orG 231 83 11 2 2147483648 2147483668 as_b592 Eb_b592 f_b592 rs_b592 (e2_orG 231 83 11 2 2147483648 2147483668 as_b591 Eb_b591 f_b591 rs_b591 (e2_orG 231 83 11 2 2147483648 2147483668 as_b590 Eb_b590 f_b590 rs_b590 (e2_orG 231 83 11 2 2147483648 2147483668 as_b589 Eb_b589 f_b589 rs_b589 (e2_orG 231 83 11 2 2147483648 2147483668 as_b588 Eb_b588 f_b588 rs_b588 (e2_orG 231 83 11 2 2147483648 2147483668 as_b587 Eb_b587 f_b587 rs_b587 (e2_orG 231 83 11 2 2147483648 2147483668 as_b586 Eb_b586 f_b586 rs_b586 (e2_orG 231 83 11 2 2147483648 2147483668 as_b585 Eb_b585 f_b585 rs_b585 (e2_orG 231 83 11 2 2147483648 2147483668 as_b584 Eb_b584 f_b584 rs_b584 (e2_orG 231 83 11 2 2147483648 2147483668 as_b583 Eb_b583 f_b583 rs_b583 (e2_orG 231 83 11 2 2147483648 2147483668 as_b582 Eb_b582 f_b582 rs_b582 (e2_orG 231 83 11 2 2147483648 2147483668 as_b581 Eb_b581 f_b581 rs_b581 (e2_orG 231 83 11 2 2147483648 2147483668 as_b580 Eb_b580 f_b580 rs_b580 (e2_orG 231 83 11 2 2147483648 2147483668 as_b579 Eb_b579 f_b579 rs_b579 (e2_orG 231 83 11 2 2147483648 2147483668 as_b578 Eb_b578 f_b578 rs_b578 (e2_orG 231 83 11 2 2147483648 2147483668 as_b577 Eb_b577 f_b577 rs_b577 (e2_orG 231 83 11 2 2147483648 2147483668 as_b576 Eb_b576 f_b576 rs_b576 (e2_orG 231 83 11 2 2147483648 2147483668 as_b575 Eb_b575 f_b575 rs_b575 (e2_orG 231 83 11 2 2147483648 2147483668 as_b574 Eb_b574 f_b574 rs_b574 (e2_cal S_b594 I_b594 4000 1))))))))))))))))))))) (e2_fin rs_b594) e2x_230 (e2_bpL cl_b594_22) (e2_cutA cl_b594_22) 4000 (e2_seek e2x_230 49) al_b594_22 [] E_b594_22 h_b594_22 = true := by decide +kernel
set_option maxRecDepth 1000000 in
theorem ci_b594_22 : e2_idl 2 (al_b594_22.set 2 (9, 0, 0)) = true := by decide +kernel
set_option maxRecDepth 1000000 in
theorem cj_b594_22 : e2_idh 2 8 h_b594_22 = true := by decide +kernel
noncomputable def cl_b594_23 : List (Nat × e2_S) := [(49, e2_cutL (al_b594_22.set 2 (12, 10, 2147483647)) 2 (E_b594_22.take 2) h_b594_22),
  (55, e2_cutL (al_b594_23.set 3 (13, 11, 2147483657)) 3 (E_b594_23.take 3) h_b594_23)]
set_option maxRecDepth 1000000 in
theorem ck_b594_23 : e2_runM (e2_orG 231 83 11 2 2147483648 2147483668 as_b593 Eb_b593 f_b593 rs_b593 (e2_orG 231 83 11 2 2147483648 2147483668 as_b592 Eb_b592 f_b592 rs_b592 (e2_orG 231 83 11 2 2147483648 2147483668 as_b591 Eb_b591 f_b591 rs_b591 (e2_orG 231 83 11 2 2147483648 2147483668 as_b590 Eb_b590 f_b590 rs_b590 (e2_orG 231 83 11 2 2147483648 2147483668 as_b589 Eb_b589 f_b589 rs_b589 (e2_orG 231 83 11 2 2147483648 2147483668 as_b588 Eb_b588 f_b588 rs_b588 (e2_orG 231 83 11 2 2147483648 2147483668 as_b587 Eb_b587 f_b587 rs_b587 (e2_orG 231 83 11 2 2147483648 2147483668 as_b586 Eb_b586 f_b586 rs_b586 (e2_orG 231 83 11 2 2147483648 2147483668 as_b585 Eb_b585 f_b585 rs_b585 (e2_orG 231 83 11 2 2147483648 2147483668 as_b584 Eb_b584 f_b584 rs_b584 (e2_orG 231 83 11 2 2147483648 2147483668 as_b583 Eb_b583 f_b583 rs_b583 (e2_orG 231 83 11 2 2147483648 2147483668 as_b582 Eb_b582 f_b582 rs_b582 (e2_orG 231 83 11 2 2147483648 2147483668 as_b581 Eb_b581 f_b581 rs_b581 (e2_orG 231 83 11 2 2147483648 2147483668 as_b580 Eb_b580 f_b580 rs_b580 (e2_orG 231 83 11 2 2147483648 2147483668 as_b579 Eb_b579 f_b579 rs_b579 (e2_orG 231 83 11 2 2147483648 2147483668 as_b578 Eb_b578 f_b578 rs_b578 (e2_orG 231 83 11 2 2147483648 2147483668 as_b577 Eb_b577 f_b577 rs_b577 (e2_orG 231 83 11 2 2147483648 2147483668 as_b576 Eb_b576 f_b576 rs_b576 (e2_orG 231 83 11 2 2147483648 2147483668 as_b575 Eb_b575 f_b575 rs_b575 (e2_orG 231 83 11 2 2147483648 2147483668 as_b574 Eb_b574 f_b574 rs_b574 (e2_cal S_b594 I_b594 4000 1))))))))))))))))))))) (e2_fin rs_b594) e2x_230 (e2_bpL cl_b594_23) (e2_cutA cl_b594_23) 4000 (e2_seek e2x_230 55) al_b594_23 [] E_b594_23 h_b594_23 = true := by decide +kernel
set_option maxRecDepth 1000000 in
theorem ci_b594_23 : e2_idl 3 (al_b594_23.set 3 (9, 0, 0)) = true := by decide +kernel
set_option maxRecDepth 1000000 in
theorem cj_b594_23 : e2_idh 3 8 h_b594_23 = true := by decide +kernel
set_option maxRecDepth 1000000 in
theorem ck_b594_u120 : e2_cutsB (e2_orG 231 83 11 2 2147483648 2147483668 as_b593 Eb_b593 f_b593 rs_b593 (e2_orG 231 83 11 2 2147483648 2147483668 as_b592 Eb_b592 f_b592 rs_b592 (e2_orG 231 83 11 2 2147483648 2147483668 as_b591 Eb_b591 f_b591 rs_b591 (e2_orG 231 83 11 2 2147483648 2147483668 as_b590 Eb_b590 f_b590 rs_b590 (e2_orG 231 83 11 2 2147483648 2147483668 as_b589 Eb_b589 f_b589 rs_b589 (e2_orG 231 83 11 2 2147483648 2147483668 as_b588 Eb_b588 f_b588 rs_b588 (e2_orG 231 83 11 2 2147483648 2147483668 as_b587 Eb_b587 f_b587 rs_b587 (e2_orG 231 83 11 2 2147483648 2147483668 as_b586 Eb_b586 f_b586 rs_b586 (e2_orG 231 83 11 2 2147483648 2147483668 as_b585 Eb_b585 f_b585 rs_b585 (e2_orG 231 83 11 2 2147483648 2147483668 as_b584 Eb_b584 f_b584 rs_b584 (e2_orG 231 83 11 2 2147483648 2147483668 as_b583 Eb_b583 f_b583 rs_b583 (e2_orG 231 83 11 2 2147483648 2147483668 as_b582 Eb_b582 f_b582 rs_b582 (e2_orG 231 83 11 2 2147483648 2147483668 as_b581 Eb_b581 f_b581 rs_b581 (e2_orG 231 83 11 2 2147483648 2147483668 as_b580 Eb_b580 f_b580 rs_b580 (e2_orG 231 83 11 2 2147483648 2147483668 as_b579 Eb_b579 f_b579 rs_b579 (e2_orG 231 83 11 2 2147483648 2147483668 as_b578 Eb_b578 f_b578 rs_b578 (e2_orG 231 83 11 2 2147483648 2147483668 as_b577 Eb_b577 f_b577 rs_b577 (e2_orG 231 83 11 2 2147483648 2147483668 as_b576 Eb_b576 f_b576 rs_b576 (e2_orG 231 83 11 2 2147483648 2147483668 as_b575 Eb_b575 f_b575 rs_b575 (e2_orG 231 83 11 2 2147483648 2147483668 as_b574 Eb_b574 f_b574 rs_b574 (e2_cal S_b594 I_b594 4000 1))))))))))))))))))))) (e2_fin rs_b594) e2x_230 120 4000 cu_b594_120 = true := by decide +kernel
set_option maxRecDepth 1000000 in
theorem cs_b594 (hen : en_ok) (l : Launch) : e2_smOk l 5 s_b594 := by
  refine e2_conC (H := 4) (C := evd_230) (call := (e2_orG 231 83 11 2 2147483648 2147483668 as_b593 Eb_b593 f_b593 rs_b593 (e2_orG 231 83 11 2 2147483648 2147483668 as_b592 Eb_b592 f_b592 rs_b592 (e2_orG 231 83 11 2 2147483648 2147483668 as_b591 Eb_b591 f_b591 rs_b591 (e2_orG 231 83 11 2 2147483648 2147483668 as_b590 Eb_b590 f_b590 rs_b590 (e2_orG 231 83 11 2 2147483648 2147483668 as_b589 Eb_b589 f_b589 rs_b589 (e2_orG 231 83 11 2 2147483648 2147483668 as_b588 Eb_b588 f_b588 rs_b588 (e2_orG 231 83 11 2 2147483648 2147483668 as_b587 Eb_b587 f_b587 rs_b587 (e2_orG 231 83 11 2 2147483648 2147483668 as_b586 Eb_b586 f_b586 rs_b586 (e2_orG 231 83 11 2 2147483648 2147483668 as_b585 Eb_b585 f_b585 rs_b585 (e2_orG 231 83 11 2 2147483648 2147483668 as_b584 Eb_b584 f_b584 rs_b584 (e2_orG 231 83 11 2 2147483648 2147483668 as_b583 Eb_b583 f_b583 rs_b583 (e2_orG 231 83 11 2 2147483648 2147483668 as_b582 Eb_b582 f_b582 rs_b582 (e2_orG 231 83 11 2 2147483648 2147483668 as_b581 Eb_b581 f_b581 rs_b581 (e2_orG 231 83 11 2 2147483648 2147483668 as_b580 Eb_b580 f_b580 rs_b580 (e2_orG 231 83 11 2 2147483648 2147483668 as_b579 Eb_b579 f_b579 rs_b579 (e2_orG 231 83 11 2 2147483648 2147483668 as_b578 Eb_b578 f_b578 rs_b578 (e2_orG 231 83 11 2 2147483648 2147483668 as_b577 Eb_b577 f_b577 rs_b577 (e2_orG 231 83 11 2 2147483648 2147483668 as_b576 Eb_b576 f_b576 rs_b576 (e2_orG 231 83 11 2 2147483648 2147483668 as_b575 Eb_b575 f_b575 rs_b575 (e2_orG 231 83 11 2 2147483648 2147483668 as_b574 Eb_b574 f_b574 rs_b574 (e2_cal S_b594 I_b594 4000 1)))))))))))))))))))))) ei_230 (fun d hd => (e2_orG_ok (k0 := 231) (a := 83) (j := 11) (n := 2) (lo := 2147483648) (hi := 2147483668) (as0 := as_b593) (Eb := Eb_b593) (f := f_b593) (res := rs_b593) (e2_orG_ok (k0 := 231) (a := 83) (j := 11) (n := 2) (lo := 2147483648) (hi := 2147483668) (as0 := as_b592) (Eb := Eb_b592) (f := f_b592) (res := rs_b592) (e2_orG_ok (k0 := 231) (a := 83) (j := 11) (n := 2) (lo := 2147483648) (hi := 2147483668) (as0 := as_b591) (Eb := Eb_b591) (f := f_b591) (res := rs_b591) (e2_orG_ok (k0 := 231) (a := 83) (j := 11) (n := 2) (lo := 2147483648) (hi := 2147483668) (as0 := as_b590) (Eb := Eb_b590) (f := f_b590) (res := rs_b590) (e2_orG_ok (k0 := 231) (a := 83) (j := 11) (n := 2) (lo := 2147483648) (hi := 2147483668) (as0 := as_b589) (Eb := Eb_b589) (f := f_b589) (res := rs_b589) (e2_orG_ok (k0 := 231) (a := 83) (j := 11) (n := 2) (lo := 2147483648) (hi := 2147483668) (as0 := as_b588) (Eb := Eb_b588) (f := f_b588) (res := rs_b588) (e2_orG_ok (k0 := 231) (a := 83) (j := 11) (n := 2) (lo := 2147483648) (hi := 2147483668) (as0 := as_b587) (Eb := Eb_b587) (f := f_b587) (res := rs_b587) (e2_orG_ok (k0 := 231) (a := 83) (j := 11) (n := 2) (lo := 2147483648) (hi := 2147483668) (as0 := as_b586) (Eb := Eb_b586) (f := f_b586) (res := rs_b586) (e2_orG_ok (k0 := 231) (a := 83) (j := 11) (n := 2) (lo := 2147483648) (hi := 2147483668) (as0 := as_b585) (Eb := Eb_b585) (f := f_b585) (res := rs_b585) (e2_orG_ok (k0 := 231) (a := 83) (j := 11) (n := 2) (lo := 2147483648) (hi := 2147483668) (as0 := as_b584) (Eb := Eb_b584) (f := f_b584) (res := rs_b584) (e2_orG_ok (k0 := 231) (a := 83) (j := 11) (n := 2) (lo := 2147483648) (hi := 2147483668) (as0 := as_b583) (Eb := Eb_b583) (f := f_b583) (res := rs_b583) (e2_orG_ok (k0 := 231) (a := 83) (j := 11) (n := 2) (lo := 2147483648) (hi := 2147483668) (as0 := as_b582) (Eb := Eb_b582) (f := f_b582) (res := rs_b582) (e2_orG_ok (k0 := 231) (a := 83) (j := 11) (n := 2) (lo := 2147483648) (hi := 2147483668) (as0 := as_b581) (Eb := Eb_b581) (f := f_b581) (res := rs_b581) (e2_orG_ok (k0 := 231) (a := 83) (j := 11) (n := 2) (lo := 2147483648) (hi := 2147483668) (as0 := as_b580) (Eb := Eb_b580) (f := f_b580) (res := rs_b580) (e2_orG_ok (k0 := 231) (a := 83) (j := 11) (n := 2) (lo := 2147483648) (hi := 2147483668) (as0 := as_b579) (Eb := Eb_b579) (f := f_b579) (res := rs_b579) (e2_orG_ok (k0 := 231) (a := 83) (j := 11) (n := 2) (lo := 2147483648) (hi := 2147483668) (as0 := as_b578) (Eb := Eb_b578) (f := f_b578) (res := rs_b578) (e2_orG_ok (k0 := 231) (a := 83) (j := 11) (n := 2) (lo := 2147483648) (hi := 2147483668) (as0 := as_b577) (Eb := Eb_b577) (f := f_b577) (res := rs_b577) (e2_orG_ok (k0 := 231) (a := 83) (j := 11) (n := 2) (lo := 2147483648) (hi := 2147483668) (as0 := as_b576) (Eb := Eb_b576) (f := f_b576) (res := rs_b576) (e2_orG_ok (k0 := 231) (a := 83) (j := 11) (n := 2) (lo := 2147483648) (hi := 2147483668) (as0 := as_b575) (Eb := Eb_b575) (f := f_b575) (res := rs_b575) (e2_orG_ok (k0 := 231) (a := 83) (j := 11) (n := 2) (lo := 2147483648) (hi := 2147483668) (as0 := as_b574) (Eb := Eb_b574) (f := f_b574) (res := rs_b574) (e2_cal_ok hen (e2_fa (cs_b554 hen l) (e2_fa (cs_b555 hen l) (e2_fa (cs_b556 hen l) (e2_fa (cs_b557 hen l) (e2_fa (cs_b558 hen l) (e2_fa (cs_b559 hen l) (e2_fa (cs_b560 hen l) (e2_fa (cs_b561 hen l) (e2_fa (cs_b562 hen l) (e2_fa (cs_b563 hen l) (e2_fa (cs_b564 hen l) (e2_fa (cs_b565 hen l) (e2_fa (cs_b566 hen l) (e2_fa (cs_b567 hen l) (e2_fa (cs_b568 hen l) (e2_fa (cs_b569 hen l) (e2_fa (cs_b570 hen l) (e2_fa (cs_b571 hen l) (e2_fa (cs_b572 hen l) (e2_fa (cs_b573 hen l) e2_fz)))))))))))))))))))) (e2_fa ein_216 (e2_fa ein_217 (e2_fa ein_227 e2_fz))) 1 d (by omega)) rfl (by decide +kernel) (fun M hM => (cs_b574 hen l).2 M hM d (by omega)) (e2_okGB_ok cog_b574)) rfl (by decide +kernel) (fun M hM => (cs_b575 hen l).2 M hM d (by omega)) (e2_okGB_ok cog_b575)) rfl (by decide +kernel) (fun M hM => (cs_b576 hen l).2 M hM d (by omega)) (e2_okGB_ok cog_b576)) rfl (by decide +kernel) (fun M hM => (cs_b577 hen l).2 M hM d (by omega)) (e2_okGB_ok cog_b577)) rfl (by decide +kernel) (fun M hM => (cs_b578 hen l).2 M hM d (by omega)) (e2_okGB_ok cog_b578)) rfl (by decide +kernel) (fun M hM => (cs_b579 hen l).2 M hM d (by omega)) (e2_okGB_ok cog_b579)) rfl (by decide +kernel) (fun M hM => (cs_b580 hen l).2 M hM d (by omega)) (e2_okGB_ok cog_b580)) rfl (by decide +kernel) (fun M hM => (cs_b581 hen l).2 M hM d (by omega)) (e2_okGB_ok cog_b581)) rfl (by decide +kernel) (fun M hM => (cs_b582 hen l).2 M hM d (by omega)) (e2_okGB_ok cog_b582)) rfl (by decide +kernel) (fun M hM => (cs_b583 hen l).2 M hM d (by omega)) (e2_okGB_ok cog_b583)) rfl (by decide +kernel) (fun M hM => (cs_b584 hen l).2 M hM d (by omega)) (e2_okGB_ok cog_b584)) rfl (by decide +kernel) (fun M hM => (cs_b585 hen l).2 M hM d (by omega)) (e2_okGB_ok cog_b585)) rfl (by decide +kernel) (fun M hM => (cs_b586 hen l).2 M hM d (by omega)) (e2_okGB_ok cog_b586)) rfl (by decide +kernel) (fun M hM => (cs_b587 hen l).2 M hM d (by omega)) (e2_okGB_ok cog_b587)) rfl (by decide +kernel) (fun M hM => (cs_b588 hen l).2 M hM d (by omega)) (e2_okGB_ok cog_b588)) rfl (by decide +kernel) (fun M hM => (cs_b589 hen l).2 M hM d (by omega)) (e2_okGB_ok cog_b589)) rfl (by decide +kernel) (fun M hM => (cs_b590 hen l).2 M hM d (by omega)) (e2_okGB_ok cog_b590)) rfl (by decide +kernel) (fun M hM => (cs_b591 hen l).2 M hM d (by omega)) (e2_okGB_ok cog_b591)) rfl (by decide +kernel) (fun M hM => (cs_b592 hen l).2 M hM d (by omega)) (e2_okGB_ok cog_b592)) rfl (by decide +kernel) (fun M hM => (cs_b593 hen l).2 M hM d (by omega)) (e2_okGB_ok cog_b593))) (by decide) co_b594 fun M d _ hC hcall p e R s m args below meth c Q D cA A ads r0 ha hl0 => ?_
  have EN_120 := e2_cutS_ok (bp := 120) (cuts := cu_b594_120) (e2_cuts_len hl0 (by decide +kernel)) (e2_cuts_ok hen ha hcall (hC [76, 192, 195]) (X := e2x_230) ex2_230 (e2_cuts_len hl0 (by decide +kernel)) ck_b594_u120)
  have L_22 : e2_gdM M p l e R s m args below meth c Q D cA A ads r0 49 al_b594_22 [] E_b594_22 h_b594_22 := by
    refine e2_indD (u := 2) (j := 2) (lo := 2147483647) (hi := 2147483667) hl0 (by decide) rfl rfl rfl ci_b594_22 cj_b594_22 ?_
    intro r_22 k_22 hk_22 hp_22 hs_22 hn_22
    have hl_22 : r_22.length ≤ 3 := hs_22.len rfl
    have ha_22 := ha.ext hp_22
    have L_23 : e2_gdM M p l e R s m args below meth c Q D cA A ads r_22 55 al_b594_23 [] E_b594_23 h_b594_23 := by
      refine e2_indL (u := 3) (j := 3) (lo := 2147483648) (hi := 2147483657) (b := 3) (dd := 0) hl_22 (by decide) rfl rfl (Or.inr ⟨rfl, rfl⟩) rfl ci_b594_23 cj_b594_23 ?_
      intro r_23 k_23 hk_23 hp_23 hs_23 hn_23
      have hl_23 : r_23.length ≤ 4 := hs_23.len rfl
      have ha_23 := ha_22.ext hp_23
      exact e2_fromM hen ha_23 hcall (e2_cutA_ok (e2_fa (fun al st E h hc => (hn_22 al st E h hc).ext hp_23) (e2_fa (fun al st E h hc => hn_23 al st E h hc) e2_fz))) (hC [76, 192, 195]) (X := e2x_230) ex2_230 55 ck_b594_23
    have EN_23 := e2_entL (u := 3) (j := 3) (lo := 2147483648) (hi := 2147483657) hl_22 rfl rfl rfl ci_b594_23 cj_b594_23 L_23
    exact e2_fromM hen ha_22 hcall (e2_cutA_ok (e2_fa (fun al st E h hc => (EN_120 al st E h hc).ext hp_22) (e2_fa (fun al st E h hc => EN_23 al st E h hc) e2_fz))) (hC [76, 192, 195]) (X := e2x_230) ex2_230 49 ck_b594_22
  have EN_22 := e2_entL (u := 2) (j := 2) (lo := 2147483647) (hi := 2147483667) hl0 rfl rfl rfl ci_b594_22 cj_b594_22 L_22
  have L_21 : e2_gdM M p l e R s m args below meth c Q D cA A ads r0 2 al_b594_21 [] E_b594_21 h_b594_21 := by
    refine e2_indL (u := 2) (j := 2) (lo := 2147483648) (hi := 2147483657) (b := 2) (dd := 0) hl0 (by decide) rfl rfl (Or.inr ⟨rfl, rfl⟩) rfl ci_b594_21 cj_b594_21 ?_
    intro r_21 k_21 hk_21 hp_21 hs_21 hn_21
    have hl_21 : r_21.length ≤ 3 := hs_21.len rfl
    have ha_21 := ha.ext hp_21
    exact e2_fromM hen ha_21 hcall (e2_cutA_ok (e2_fa (fun al st E h hc => hn_21 al st E h hc) (e2_fa (fun al st E h hc => (EN_22 al st E h hc).ext hp_21) e2_fz))) (hC [76, 192, 195]) (X := e2x_230) ex2_230 2 ck_b594_21
  have EN_21 := e2_entL (u := 2) (j := 2) (lo := 2147483648) (hi := 2147483657) hl0 rfl rfl rfl ci_b594_21 cj_b594_21 L_21
  exact e2_from hen ha hcall (e2_cutA_ok (e2_fa (fun al st E h hc => EN_21 al st E h hc) e2_fz)) (hC [76, 192, 195]) (X := e2x_230) ex2_230 0 ck_b594_e
/-! b595 X10_read -/
def as_b595 : List ev_V := [(2, 83, 0), (11, 0, 4294967295)]
def E_b595 : e2_E := [(2147483648, 2147583648, 0, 0), (2147483649, 2147483649, 1, 0)]
def bc264 : ev_C := (50, [(11, 2147483649, 2147483654), (11, 2147483648, 2147483654), (11, 2147483648, 2147483654), (11, 2147483648, 2147483654), (11, 2147483648, 2147483654), (11, 2147483648, 2147483654), (11, 2147483648, 2147483654), (11, 2147483648, 2147483654), (11, 2147483648, 2147483654), (11, 2147483648, 2147483654), (11, 2147483648, 2147483654), (11, 2147483648, 2147483654), (11, 2147483648, 2147483654), (11, 2147483648, 2147483654), (11, 2147483648, 2147483654), (11, 2147483648, 2147483654)])
def bn3636 : e2_Q1 := (bc264, bc3)
def bn3637 : e2_Q2 := (bn130, bn3636)
def bn3638 : e2_Q3 := (bn129, bn3637)
def bn3639 : e2_Q4 := (bn3638, bn3573)
def bn3640 : e2_Q5 := (bn3639, bn156)
def bn3641 : e2_Q6 := (bn3640, bn3624)
def bn3642 : e2_Q7 := (bn3641, bn3594)
def bn3643 : e2_Q8 := (bn3614, bn3642)
noncomputable def f_b595 : ev_H := (bn3643 : e2_Q8)
noncomputable def q_b595_0 : ev_H := (bn3643 : e2_Q8)
noncomputable def rs_b595 : e2_Rs := [((11, 2147483647, 2147483668), q_b595_0)]
noncomputable def s_b595 : e2_Sm := (230, as_b595, E_b595, f_b595, rs_b595)
noncomputable def S_b595 : List e2_Sm := [s_b554, s_b555, s_b556, s_b557, s_b558, s_b559, s_b560, s_b561, s_b562, s_b563, s_b564, s_b565, s_b566, s_b567, s_b568, s_b569, s_b570, s_b571, s_b572, s_b573]
noncomputable def I_b595 : List e2_In := [(216, 1, e2x_216), (217, 1, e2x_217), (227, 2, e2x_227)]
set_option maxRecDepth 1000000 in
theorem co_b595 : e2_okSB E_b595.length as_b595 f_b595 rs_b595 = true := by decide +kernel
def al_b595_26 : List ev_V := [(2, 83, 0), (11, 0, 4294967295), (1, 2, 4294967296), (9, 0, 0), (9, 0, 0)]
def E_b595_26 : e2_E := [(2147483648, 2147583648, 0, 0), (2147483649, 2147483649, 1, 0), (2147483648, 2147483657, 2, 0)]
noncomputable def h_b595_26 : ev_H := (bn3643 : e2_Q8)
def al_b595_27 : List ev_V := [(2, 83, 0), (11, 0, 4294967295), (1, 2, 4294967296), (9, 0, 0), (9, 0, 0)]
def E_b595_27 : e2_E := [(2147483648, 2147583648, 0, 0), (2147483649, 2147483649, 1, 0), (2147483647, 2147483667, 2, 0)]
noncomputable def h_b595_27 : ev_H := (bn3643 : e2_Q8)
def al_b595_28 : List ev_V := [(2, 83, 0), (11, 0, 4294967295), (1, 2, 4294967296), (1, 3, 4294967296), (9, 0, 0)]
def E_b595_28 : e2_E := [(2147483648, 2147583648, 0, 0), (2147483649, 2147483649, 1, 0), (2147483648, 2147483667, 2, 0), (2147483648, 2147483657, 3, 0)]
noncomputable def h_b595_28 : ev_H := (bn3643 : e2_Q8)
def bn3644 : e2_Q7 := (bn3641, bn3633)
def bn3645 : e2_Q8 := (bn3614, bn3644)
noncomputable def h_b595_0 : ev_H := (bn3645 : e2_Q8)
def bc265 : ev_C := (10, [(0, 0, 0), (2, 88, 0), (2, 115, 0), (2, 114, 0), (2, 86, 0), (2, 112, 0), (11, 2147483648, 2147483688), (2, 118, 0), (2, 120, 0), (2, 131, 0), (2, 91, 0), (11, 2147483648, 2147483649), (2, 123, 0), (11, 2147483648, 2147483649), (11, 2147483648, 2147485248), (2, 87, 0), (2, 84, 0), (2, 122, 0), (2, 100, 0), (2, 132, 0), (11, 2147483648, 2147483668), (11, 2147483648, 2147485248), (1, 0, 4294967296), (11, 2147483648, 2147483653), (11, 2147483648, 2147485248), (2, 93, 0), (2, 104, 0), (11, 2147483648, 2147483678), (2, 89, 0), (2, 92, 0), (2, 119, 0), (2, 90, 0), (2, 94, 0), (2, 103, 0), (11, 2147483648, 2147483688), (11, 2147483648, 2147549184), (11, 0, 4294967295), (11, 2147483648, 2147485249), (11, 2147483648, 2147483653), (11, 2147483648, 2147483668), (2, 85, 0), (11, 0, 4294967295), (5, 0, 0), (2, 95, 0), (2, 96, 0), (2, 97, 0), (2, 98, 0), (2, 99, 0), (2, 101, 0), (2, 102, 0), (2, 105, 0), (2, 106, 0), (2, 107, 0), (2, 108, 0), (2, 109, 0), (2, 110, 0), (2, 111, 0), (11, 2147483648, 2147484768), (11, 2147482048, 2147483655), (11, 2147483648, 2147483738), (11, 2147483648, 2147483678), (11, 0, 4294967295), (11, 0, 4294967295), (11, 0, 4294967295), (11, 0, 4294967295), (11, 0, 4294967295), (2, 113, 0), (2, 116, 0), (2, 117, 0), (2, 121, 0), (11, 0, 4294967295), (11, 0, 4294967295), (2, 124, 0), (2, 125, 0), (11, 0, 4294967295), (2, 126, 0), (2, 127, 0), (2, 128, 0), (2, 129, 0), (2, 130, 0)])
def bn3646 : e2_Q1 := (bc265, bc3)
def bn3647 : e2_Q2 := (bn196, bn3646)
def bn3648 : e2_Q3 := (bn3647, bn3590)
def bn3649 : e2_Q4 := (bn195, bn3648)
def bn3650 : e2_Q5 := (bn3649, bn365)
def bn3651 : e2_Q6 := (bn3650, bn250)
def bn3652 : e2_Q7 := (bn3641, bn3651)
def bn3653 : e2_Q8 := (bn3614, bn3652)
noncomputable def h_b595_1 : ev_H := (bn3653 : e2_Q8)
def bc266 : ev_C := (10, [(0, 0, 0), (2, 88, 0), (2, 115, 0), (2, 114, 0), (2, 86, 0), (2, 112, 0), (11, 2147483648, 2147483688), (2, 118, 0), (2, 120, 0), (2, 131, 0), (2, 91, 0), (11, 2147483648, 2147483650), (2, 123, 0), (11, 2147483648, 2147483649), (11, 2147483648, 2147485248), (2, 87, 0), (2, 84, 0), (2, 122, 0), (2, 100, 0), (2, 132, 0), (11, 2147483648, 2147483668), (11, 2147483648, 2147485248), (1, 0, 4294967296), (11, 2147483648, 2147483653), (11, 2147483648, 2147485248), (2, 93, 0), (2, 104, 0), (11, 2147483648, 2147483678), (2, 89, 0), (2, 92, 0), (2, 119, 0), (2, 90, 0), (2, 94, 0), (2, 103, 0), (11, 2147483648, 2147483688), (11, 2147483648, 2147549184), (11, 0, 4294967295), (11, 2147483648, 2147485249), (11, 2147483648, 2147483653), (11, 2147483648, 2147483668), (2, 85, 0), (11, 0, 4294967295), (5, 0, 0), (2, 95, 0), (2, 96, 0), (2, 97, 0), (2, 98, 0), (2, 99, 0), (2, 101, 0), (2, 102, 0), (2, 105, 0), (2, 106, 0), (2, 107, 0), (2, 108, 0), (2, 109, 0), (2, 110, 0), (2, 111, 0), (11, 2147483648, 2147484768), (11, 2147482048, 2147483655), (11, 2147483648, 2147483738), (11, 2147483648, 2147483678), (11, 0, 4294967295), (11, 0, 4294967295), (11, 0, 4294967295), (11, 0, 4294967295), (11, 0, 4294967295), (2, 113, 0), (2, 116, 0), (2, 117, 0), (2, 121, 0), (11, 0, 4294967295), (11, 0, 4294967295), (2, 124, 0), (2, 125, 0), (11, 0, 4294967295), (2, 126, 0), (2, 127, 0), (2, 128, 0), (2, 129, 0), (2, 130, 0)])
def bn3654 : e2_Q1 := (bc266, bc3)
def bn3655 : e2_Q2 := (bn196, bn3654)
def bn3656 : e2_Q3 := (bn3655, bn3590)
def bn3657 : e2_Q4 := (bn195, bn3656)
def bn3658 : e2_Q5 := (bn3657, bn365)
def bn3659 : e2_Q6 := (bn3658, bn250)
def bn3660 : e2_Q7 := (bn3641, bn3659)
def bn3661 : e2_Q8 := (bn3614, bn3660)
noncomputable def h_b595_2 : ev_H := (bn3661 : e2_Q8)
def bc267 : ev_C := (10, [(0, 0, 0), (2, 88, 0), (2, 115, 0), (2, 114, 0), (2, 86, 0), (2, 112, 0), (11, 2147483648, 2147483688), (2, 118, 0), (2, 120, 0), (2, 131, 0), (2, 91, 0), (11, 2147483648, 2147483651), (2, 123, 0), (11, 2147483648, 2147483649), (11, 2147483648, 2147485248), (2, 87, 0), (2, 84, 0), (2, 122, 0), (2, 100, 0), (2, 132, 0), (11, 2147483648, 2147483668), (11, 2147483648, 2147485248), (1, 0, 4294967296), (11, 2147483648, 2147483653), (11, 2147483648, 2147485248), (2, 93, 0), (2, 104, 0), (11, 2147483648, 2147483678), (2, 89, 0), (2, 92, 0), (2, 119, 0), (2, 90, 0), (2, 94, 0), (2, 103, 0), (11, 2147483648, 2147483688), (11, 2147483648, 2147549184), (11, 0, 4294967295), (11, 2147483648, 2147485249), (11, 2147483648, 2147483653), (11, 2147483648, 2147483668), (2, 85, 0), (11, 0, 4294967295), (5, 0, 0), (2, 95, 0), (2, 96, 0), (2, 97, 0), (2, 98, 0), (2, 99, 0), (2, 101, 0), (2, 102, 0), (2, 105, 0), (2, 106, 0), (2, 107, 0), (2, 108, 0), (2, 109, 0), (2, 110, 0), (2, 111, 0), (11, 2147483648, 2147484768), (11, 2147482048, 2147483655), (11, 2147483648, 2147483738), (11, 2147483648, 2147483678), (11, 0, 4294967295), (11, 0, 4294967295), (11, 0, 4294967295), (11, 0, 4294967295), (11, 0, 4294967295), (2, 113, 0), (2, 116, 0), (2, 117, 0), (2, 121, 0), (11, 0, 4294967295), (11, 0, 4294967295), (2, 124, 0), (2, 125, 0), (11, 0, 4294967295), (2, 126, 0), (2, 127, 0), (2, 128, 0), (2, 129, 0), (2, 130, 0)])
def bn3662 : e2_Q1 := (bc267, bc3)
def bn3663 : e2_Q2 := (bn196, bn3662)
def bn3664 : e2_Q3 := (bn3663, bn3590)
def bn3665 : e2_Q4 := (bn195, bn3664)
def bn3666 : e2_Q5 := (bn3665, bn365)
def bn3667 : e2_Q6 := (bn3666, bn250)
def bn3668 : e2_Q7 := (bn3641, bn3667)
def bn3669 : e2_Q8 := (bn3614, bn3668)
noncomputable def h_b595_3 : ev_H := (bn3669 : e2_Q8)
def bc268 : ev_C := (10, [(0, 0, 0), (2, 88, 0), (2, 115, 0), (2, 114, 0), (2, 86, 0), (2, 112, 0), (11, 2147483648, 2147483688), (2, 118, 0), (2, 120, 0), (2, 131, 0), (2, 91, 0), (11, 2147483648, 2147483652), (2, 123, 0), (11, 2147483648, 2147483649), (11, 2147483648, 2147485248), (2, 87, 0), (2, 84, 0), (2, 122, 0), (2, 100, 0), (2, 132, 0), (11, 2147483648, 2147483668), (11, 2147483648, 2147485248), (1, 0, 4294967296), (11, 2147483648, 2147483653), (11, 2147483648, 2147485248), (2, 93, 0), (2, 104, 0), (11, 2147483648, 2147483678), (2, 89, 0), (2, 92, 0), (2, 119, 0), (2, 90, 0), (2, 94, 0), (2, 103, 0), (11, 2147483648, 2147483688), (11, 2147483648, 2147549184), (11, 0, 4294967295), (11, 2147483648, 2147485249), (11, 2147483648, 2147483653), (11, 2147483648, 2147483668), (2, 85, 0), (11, 0, 4294967295), (5, 0, 0), (2, 95, 0), (2, 96, 0), (2, 97, 0), (2, 98, 0), (2, 99, 0), (2, 101, 0), (2, 102, 0), (2, 105, 0), (2, 106, 0), (2, 107, 0), (2, 108, 0), (2, 109, 0), (2, 110, 0), (2, 111, 0), (11, 2147483648, 2147484768), (11, 2147482048, 2147483655), (11, 2147483648, 2147483738), (11, 2147483648, 2147483678), (11, 0, 4294967295), (11, 0, 4294967295), (11, 0, 4294967295), (11, 0, 4294967295), (11, 0, 4294967295), (2, 113, 0), (2, 116, 0), (2, 117, 0), (2, 121, 0), (11, 0, 4294967295), (11, 0, 4294967295), (2, 124, 0), (2, 125, 0), (11, 0, 4294967295), (2, 126, 0), (2, 127, 0), (2, 128, 0), (2, 129, 0), (2, 130, 0)])
def bn3670 : e2_Q1 := (bc268, bc3)
def bn3671 : e2_Q2 := (bn196, bn3670)
def bn3672 : e2_Q3 := (bn3671, bn3590)
def bn3673 : e2_Q4 := (bn195, bn3672)
def bn3674 : e2_Q5 := (bn3673, bn365)
def bn3675 : e2_Q6 := (bn3674, bn250)
def bn3676 : e2_Q7 := (bn3641, bn3675)
def bn3677 : e2_Q8 := (bn3614, bn3676)
noncomputable def h_b595_4 : ev_H := (bn3677 : e2_Q8)
def bc269 : ev_C := (10, [(0, 0, 0), (2, 88, 0), (2, 115, 0), (2, 114, 0), (2, 86, 0), (2, 112, 0), (11, 2147483648, 2147483688), (2, 118, 0), (2, 120, 0), (2, 131, 0), (2, 91, 0), (11, 2147483648, 2147483653), (2, 123, 0), (11, 2147483648, 2147483649), (11, 2147483648, 2147485248), (2, 87, 0), (2, 84, 0), (2, 122, 0), (2, 100, 0), (2, 132, 0), (11, 2147483648, 2147483668), (11, 2147483648, 2147485248), (1, 0, 4294967296), (11, 2147483648, 2147483653), (11, 2147483648, 2147485248), (2, 93, 0), (2, 104, 0), (11, 2147483648, 2147483678), (2, 89, 0), (2, 92, 0), (2, 119, 0), (2, 90, 0), (2, 94, 0), (2, 103, 0), (11, 2147483648, 2147483688), (11, 2147483648, 2147549184), (11, 0, 4294967295), (11, 2147483648, 2147485249), (11, 2147483648, 2147483653), (11, 2147483648, 2147483668), (2, 85, 0), (11, 0, 4294967295), (5, 0, 0), (2, 95, 0), (2, 96, 0), (2, 97, 0), (2, 98, 0), (2, 99, 0), (2, 101, 0), (2, 102, 0), (2, 105, 0), (2, 106, 0), (2, 107, 0), (2, 108, 0), (2, 109, 0), (2, 110, 0), (2, 111, 0), (11, 2147483648, 2147484768), (11, 2147482048, 2147483655), (11, 2147483648, 2147483738), (11, 2147483648, 2147483678), (11, 0, 4294967295), (11, 0, 4294967295), (11, 0, 4294967295), (11, 0, 4294967295), (11, 0, 4294967295), (2, 113, 0), (2, 116, 0), (2, 117, 0), (2, 121, 0), (11, 0, 4294967295), (11, 0, 4294967295), (2, 124, 0), (2, 125, 0), (11, 0, 4294967295), (2, 126, 0), (2, 127, 0), (2, 128, 0), (2, 129, 0), (2, 130, 0)])
def bn3678 : e2_Q1 := (bc269, bc3)
def bn3679 : e2_Q2 := (bn196, bn3678)
def bn3680 : e2_Q3 := (bn3679, bn3590)
def bn3681 : e2_Q4 := (bn195, bn3680)
def bn3682 : e2_Q5 := (bn3681, bn365)
def bn3683 : e2_Q6 := (bn3682, bn250)
def bn3684 : e2_Q7 := (bn3641, bn3683)
def bn3685 : e2_Q8 := (bn3614, bn3684)
noncomputable def h_b595_5 : ev_H := (bn3685 : e2_Q8)
def bc270 : ev_C := (10, [(0, 0, 0), (2, 88, 0), (2, 115, 0), (2, 114, 0), (2, 86, 0), (2, 112, 0), (11, 2147483648, 2147483688), (2, 118, 0), (2, 120, 0), (2, 131, 0), (2, 91, 0), (11, 2147483648, 2147483654), (2, 123, 0), (11, 2147483648, 2147483649), (11, 2147483648, 2147485248), (2, 87, 0), (2, 84, 0), (2, 122, 0), (2, 100, 0), (2, 132, 0), (11, 2147483648, 2147483668), (11, 2147483648, 2147485248), (1, 0, 4294967296), (11, 2147483648, 2147483653), (11, 2147483648, 2147485248), (2, 93, 0), (2, 104, 0), (11, 2147483648, 2147483678), (2, 89, 0), (2, 92, 0), (2, 119, 0), (2, 90, 0), (2, 94, 0), (2, 103, 0), (11, 2147483648, 2147483688), (11, 2147483648, 2147549184), (11, 0, 4294967295), (11, 2147483648, 2147485249), (11, 2147483648, 2147483653), (11, 2147483648, 2147483668), (2, 85, 0), (11, 0, 4294967295), (5, 0, 0), (2, 95, 0), (2, 96, 0), (2, 97, 0), (2, 98, 0), (2, 99, 0), (2, 101, 0), (2, 102, 0), (2, 105, 0), (2, 106, 0), (2, 107, 0), (2, 108, 0), (2, 109, 0), (2, 110, 0), (2, 111, 0), (11, 2147483648, 2147484768), (11, 2147482048, 2147483655), (11, 2147483648, 2147483738), (11, 2147483648, 2147483678), (11, 0, 4294967295), (11, 0, 4294967295), (11, 0, 4294967295), (11, 0, 4294967295), (11, 0, 4294967295), (2, 113, 0), (2, 116, 0), (2, 117, 0), (2, 121, 0), (11, 0, 4294967295), (11, 0, 4294967295), (2, 124, 0), (2, 125, 0), (11, 0, 4294967295), (2, 126, 0), (2, 127, 0), (2, 128, 0), (2, 129, 0), (2, 130, 0)])
def bn3686 : e2_Q1 := (bc270, bc3)
def bn3687 : e2_Q2 := (bn196, bn3686)
def bn3688 : e2_Q3 := (bn3687, bn3590)
def bn3689 : e2_Q4 := (bn195, bn3688)
def bn3690 : e2_Q5 := (bn3689, bn365)
def bn3691 : e2_Q6 := (bn3690, bn250)
def bn3692 : e2_Q7 := (bn3641, bn3691)
def bn3693 : e2_Q8 := (bn3614, bn3692)
noncomputable def h_b595_6 : ev_H := (bn3693 : e2_Q8)
def bc271 : ev_C := (10, [(0, 0, 0), (2, 88, 0), (2, 115, 0), (2, 114, 0), (2, 86, 0), (2, 112, 0), (11, 2147483648, 2147483688), (2, 118, 0), (2, 120, 0), (2, 131, 0), (2, 91, 0), (11, 2147483648, 2147483655), (2, 123, 0), (11, 2147483648, 2147483649), (11, 2147483648, 2147485248), (2, 87, 0), (2, 84, 0), (2, 122, 0), (2, 100, 0), (2, 132, 0), (11, 2147483648, 2147483668), (11, 2147483648, 2147485248), (1, 0, 4294967296), (11, 2147483648, 2147483653), (11, 2147483648, 2147485248), (2, 93, 0), (2, 104, 0), (11, 2147483648, 2147483678), (2, 89, 0), (2, 92, 0), (2, 119, 0), (2, 90, 0), (2, 94, 0), (2, 103, 0), (11, 2147483648, 2147483688), (11, 2147483648, 2147549184), (11, 0, 4294967295), (11, 2147483648, 2147485249), (11, 2147483648, 2147483653), (11, 2147483648, 2147483668), (2, 85, 0), (11, 0, 4294967295), (5, 0, 0), (2, 95, 0), (2, 96, 0), (2, 97, 0), (2, 98, 0), (2, 99, 0), (2, 101, 0), (2, 102, 0), (2, 105, 0), (2, 106, 0), (2, 107, 0), (2, 108, 0), (2, 109, 0), (2, 110, 0), (2, 111, 0), (11, 2147483648, 2147484768), (11, 2147482048, 2147483655), (11, 2147483648, 2147483738), (11, 2147483648, 2147483678), (11, 0, 4294967295), (11, 0, 4294967295), (11, 0, 4294967295), (11, 0, 4294967295), (11, 0, 4294967295), (2, 113, 0), (2, 116, 0), (2, 117, 0), (2, 121, 0), (11, 0, 4294967295), (11, 0, 4294967295), (2, 124, 0), (2, 125, 0), (11, 0, 4294967295), (2, 126, 0), (2, 127, 0), (2, 128, 0), (2, 129, 0), (2, 130, 0)])
def bn3694 : e2_Q1 := (bc271, bc3)
def bn3695 : e2_Q2 := (bn196, bn3694)
def bn3696 : e2_Q3 := (bn3695, bn3590)
def bn3697 : e2_Q4 := (bn195, bn3696)
def bn3698 : e2_Q5 := (bn3697, bn365)
def bn3699 : e2_Q6 := (bn3698, bn250)
def bn3700 : e2_Q7 := (bn3641, bn3699)
def bn3701 : e2_Q8 := (bn3614, bn3700)
noncomputable def h_b595_7 : ev_H := (bn3701 : e2_Q8)
def bc272 : ev_C := (10, [(0, 0, 0), (2, 88, 0), (2, 115, 0), (2, 114, 0), (2, 86, 0), (2, 112, 0), (11, 2147483648, 2147483688), (2, 118, 0), (2, 120, 0), (2, 131, 0), (2, 91, 0), (11, 2147483648, 2147483656), (2, 123, 0), (11, 2147483648, 2147483649), (11, 2147483648, 2147485248), (2, 87, 0), (2, 84, 0), (2, 122, 0), (2, 100, 0), (2, 132, 0), (11, 2147483648, 2147483668), (11, 2147483648, 2147485248), (1, 0, 4294967296), (11, 2147483648, 2147483653), (11, 2147483648, 2147485248), (2, 93, 0), (2, 104, 0), (11, 2147483648, 2147483678), (2, 89, 0), (2, 92, 0), (2, 119, 0), (2, 90, 0), (2, 94, 0), (2, 103, 0), (11, 2147483648, 2147483688), (11, 2147483648, 2147549184), (11, 0, 4294967295), (11, 2147483648, 2147485249), (11, 2147483648, 2147483653), (11, 2147483648, 2147483668), (2, 85, 0), (11, 0, 4294967295), (5, 0, 0), (2, 95, 0), (2, 96, 0), (2, 97, 0), (2, 98, 0), (2, 99, 0), (2, 101, 0), (2, 102, 0), (2, 105, 0), (2, 106, 0), (2, 107, 0), (2, 108, 0), (2, 109, 0), (2, 110, 0), (2, 111, 0), (11, 2147483648, 2147484768), (11, 2147482048, 2147483655), (11, 2147483648, 2147483738), (11, 2147483648, 2147483678), (11, 0, 4294967295), (11, 0, 4294967295), (11, 0, 4294967295), (11, 0, 4294967295), (11, 0, 4294967295), (2, 113, 0), (2, 116, 0), (2, 117, 0), (2, 121, 0), (11, 0, 4294967295), (11, 0, 4294967295), (2, 124, 0), (2, 125, 0), (11, 0, 4294967295), (2, 126, 0), (2, 127, 0), (2, 128, 0), (2, 129, 0), (2, 130, 0)])
def bn3702 : e2_Q1 := (bc272, bc3)
def bn3703 : e2_Q2 := (bn196, bn3702)
def bn3704 : e2_Q3 := (bn3703, bn3590)
def bn3705 : e2_Q4 := (bn195, bn3704)
def bn3706 : e2_Q5 := (bn3705, bn365)
def bn3707 : e2_Q6 := (bn3706, bn250)
def bn3708 : e2_Q7 := (bn3641, bn3707)
def bn3709 : e2_Q8 := (bn3614, bn3708)
noncomputable def h_b595_8 : ev_H := (bn3709 : e2_Q8)
def bc273 : ev_C := (10, [(0, 0, 0), (2, 88, 0), (2, 115, 0), (2, 114, 0), (2, 86, 0), (2, 112, 0), (11, 2147483648, 2147483688), (2, 118, 0), (2, 120, 0), (2, 131, 0), (2, 91, 0), (11, 2147483648, 2147483657), (2, 123, 0), (11, 2147483648, 2147483649), (11, 2147483648, 2147485248), (2, 87, 0), (2, 84, 0), (2, 122, 0), (2, 100, 0), (2, 132, 0), (11, 2147483648, 2147483668), (11, 2147483648, 2147485248), (1, 0, 4294967296), (11, 2147483648, 2147483653), (11, 2147483648, 2147485248), (2, 93, 0), (2, 104, 0), (11, 2147483648, 2147483678), (2, 89, 0), (2, 92, 0), (2, 119, 0), (2, 90, 0), (2, 94, 0), (2, 103, 0), (11, 2147483648, 2147483688), (11, 2147483648, 2147549184), (11, 0, 4294967295), (11, 2147483648, 2147485249), (11, 2147483648, 2147483653), (11, 2147483648, 2147483668), (2, 85, 0), (11, 0, 4294967295), (5, 0, 0), (2, 95, 0), (2, 96, 0), (2, 97, 0), (2, 98, 0), (2, 99, 0), (2, 101, 0), (2, 102, 0), (2, 105, 0), (2, 106, 0), (2, 107, 0), (2, 108, 0), (2, 109, 0), (2, 110, 0), (2, 111, 0), (11, 2147483648, 2147484768), (11, 2147482048, 2147483655), (11, 2147483648, 2147483738), (11, 2147483648, 2147483678), (11, 0, 4294967295), (11, 0, 4294967295), (11, 0, 4294967295), (11, 0, 4294967295), (11, 0, 4294967295), (2, 113, 0), (2, 116, 0), (2, 117, 0), (2, 121, 0), (11, 0, 4294967295), (11, 0, 4294967295), (2, 124, 0), (2, 125, 0), (11, 0, 4294967295), (2, 126, 0), (2, 127, 0), (2, 128, 0), (2, 129, 0), (2, 130, 0)])
def bn3710 : e2_Q1 := (bc273, bc3)
def bn3711 : e2_Q2 := (bn196, bn3710)
def bn3712 : e2_Q3 := (bn3711, bn3590)
def bn3713 : e2_Q4 := (bn195, bn3712)
def bn3714 : e2_Q5 := (bn3713, bn365)
def bn3715 : e2_Q6 := (bn3714, bn250)
def bn3716 : e2_Q7 := (bn3641, bn3715)
def bn3717 : e2_Q8 := (bn3614, bn3716)
noncomputable def h_b595_9 : ev_H := (bn3717 : e2_Q8)
def bc274 : ev_C := (10, [(0, 0, 0), (2, 88, 0), (2, 115, 0), (2, 114, 0), (2, 86, 0), (2, 112, 0), (11, 2147483648, 2147483688), (2, 118, 0), (2, 120, 0), (2, 131, 0), (2, 91, 0), (11, 2147483648, 2147483658), (2, 123, 0), (11, 2147483648, 2147483649), (11, 2147483648, 2147485248), (2, 87, 0), (2, 84, 0), (2, 122, 0), (2, 100, 0), (2, 132, 0), (11, 2147483648, 2147483668), (11, 2147483648, 2147485248), (1, 0, 4294967296), (11, 2147483648, 2147483653), (11, 2147483648, 2147485248), (2, 93, 0), (2, 104, 0), (11, 2147483648, 2147483678), (2, 89, 0), (2, 92, 0), (2, 119, 0), (2, 90, 0), (2, 94, 0), (2, 103, 0), (11, 2147483648, 2147483688), (11, 2147483648, 2147549184), (11, 0, 4294967295), (11, 2147483648, 2147485249), (11, 2147483648, 2147483653), (11, 2147483648, 2147483668), (2, 85, 0), (11, 0, 4294967295), (5, 0, 0), (2, 95, 0), (2, 96, 0), (2, 97, 0), (2, 98, 0), (2, 99, 0), (2, 101, 0), (2, 102, 0), (2, 105, 0), (2, 106, 0), (2, 107, 0), (2, 108, 0), (2, 109, 0), (2, 110, 0), (2, 111, 0), (11, 2147483648, 2147484768), (11, 2147482048, 2147483655), (11, 2147483648, 2147483738), (11, 2147483648, 2147483678), (11, 0, 4294967295), (11, 0, 4294967295), (11, 0, 4294967295), (11, 0, 4294967295), (11, 0, 4294967295), (2, 113, 0), (2, 116, 0), (2, 117, 0), (2, 121, 0), (11, 0, 4294967295), (11, 0, 4294967295), (2, 124, 0), (2, 125, 0), (11, 0, 4294967295), (2, 126, 0), (2, 127, 0), (2, 128, 0), (2, 129, 0), (2, 130, 0)])
def bn3718 : e2_Q1 := (bc274, bc3)
def bn3719 : e2_Q2 := (bn196, bn3718)
def bn3720 : e2_Q3 := (bn3719, bn3590)
def bn3721 : e2_Q4 := (bn195, bn3720)
def bn3722 : e2_Q5 := (bn3721, bn365)
def bn3723 : e2_Q6 := (bn3722, bn250)
def bn3724 : e2_Q7 := (bn3641, bn3723)
def bn3725 : e2_Q8 := (bn3614, bn3724)
noncomputable def h_b595_10 : ev_H := (bn3725 : e2_Q8)
def bc275 : ev_C := (10, [(0, 0, 0), (2, 88, 0), (2, 115, 0), (2, 114, 0), (2, 86, 0), (2, 112, 0), (11, 2147483648, 2147483688), (2, 118, 0), (2, 120, 0), (2, 131, 0), (2, 91, 0), (11, 2147483648, 2147483659), (2, 123, 0), (11, 2147483648, 2147483649), (11, 2147483648, 2147485248), (2, 87, 0), (2, 84, 0), (2, 122, 0), (2, 100, 0), (2, 132, 0), (11, 2147483648, 2147483668), (11, 2147483648, 2147485248), (1, 0, 4294967296), (11, 2147483648, 2147483653), (11, 2147483648, 2147485248), (2, 93, 0), (2, 104, 0), (11, 2147483648, 2147483678), (2, 89, 0), (2, 92, 0), (2, 119, 0), (2, 90, 0), (2, 94, 0), (2, 103, 0), (11, 2147483648, 2147483688), (11, 2147483648, 2147549184), (11, 0, 4294967295), (11, 2147483648, 2147485249), (11, 2147483648, 2147483653), (11, 2147483648, 2147483668), (2, 85, 0), (11, 0, 4294967295), (5, 0, 0), (2, 95, 0), (2, 96, 0), (2, 97, 0), (2, 98, 0), (2, 99, 0), (2, 101, 0), (2, 102, 0), (2, 105, 0), (2, 106, 0), (2, 107, 0), (2, 108, 0), (2, 109, 0), (2, 110, 0), (2, 111, 0), (11, 2147483648, 2147484768), (11, 2147482048, 2147483655), (11, 2147483648, 2147483738), (11, 2147483648, 2147483678), (11, 0, 4294967295), (11, 0, 4294967295), (11, 0, 4294967295), (11, 0, 4294967295), (11, 0, 4294967295), (2, 113, 0), (2, 116, 0), (2, 117, 0), (2, 121, 0), (11, 0, 4294967295), (11, 0, 4294967295), (2, 124, 0), (2, 125, 0), (11, 0, 4294967295), (2, 126, 0), (2, 127, 0), (2, 128, 0), (2, 129, 0), (2, 130, 0)])
def bn3726 : e2_Q1 := (bc275, bc3)
def bn3727 : e2_Q2 := (bn196, bn3726)
def bn3728 : e2_Q3 := (bn3727, bn3590)
def bn3729 : e2_Q4 := (bn195, bn3728)
def bn3730 : e2_Q5 := (bn3729, bn365)
def bn3731 : e2_Q6 := (bn3730, bn250)
def bn3732 : e2_Q7 := (bn3641, bn3731)
def bn3733 : e2_Q8 := (bn3614, bn3732)
noncomputable def h_b595_11 : ev_H := (bn3733 : e2_Q8)
def bc276 : ev_C := (10, [(0, 0, 0), (2, 88, 0), (2, 115, 0), (2, 114, 0), (2, 86, 0), (2, 112, 0), (11, 2147483648, 2147483688), (2, 118, 0), (2, 120, 0), (2, 131, 0), (2, 91, 0), (11, 2147483648, 2147483660), (2, 123, 0), (11, 2147483648, 2147483649), (11, 2147483648, 2147485248), (2, 87, 0), (2, 84, 0), (2, 122, 0), (2, 100, 0), (2, 132, 0), (11, 2147483648, 2147483668), (11, 2147483648, 2147485248), (1, 0, 4294967296), (11, 2147483648, 2147483653), (11, 2147483648, 2147485248), (2, 93, 0), (2, 104, 0), (11, 2147483648, 2147483678), (2, 89, 0), (2, 92, 0), (2, 119, 0), (2, 90, 0), (2, 94, 0), (2, 103, 0), (11, 2147483648, 2147483688), (11, 2147483648, 2147549184), (11, 0, 4294967295), (11, 2147483648, 2147485249), (11, 2147483648, 2147483653), (11, 2147483648, 2147483668), (2, 85, 0), (11, 0, 4294967295), (5, 0, 0), (2, 95, 0), (2, 96, 0), (2, 97, 0), (2, 98, 0), (2, 99, 0), (2, 101, 0), (2, 102, 0), (2, 105, 0), (2, 106, 0), (2, 107, 0), (2, 108, 0), (2, 109, 0), (2, 110, 0), (2, 111, 0), (11, 2147483648, 2147484768), (11, 2147482048, 2147483655), (11, 2147483648, 2147483738), (11, 2147483648, 2147483678), (11, 0, 4294967295), (11, 0, 4294967295), (11, 0, 4294967295), (11, 0, 4294967295), (11, 0, 4294967295), (2, 113, 0), (2, 116, 0), (2, 117, 0), (2, 121, 0), (11, 0, 4294967295), (11, 0, 4294967295), (2, 124, 0), (2, 125, 0), (11, 0, 4294967295), (2, 126, 0), (2, 127, 0), (2, 128, 0), (2, 129, 0), (2, 130, 0)])
def bn3734 : e2_Q1 := (bc276, bc3)
def bn3735 : e2_Q2 := (bn196, bn3734)
def bn3736 : e2_Q3 := (bn3735, bn3590)
def bn3737 : e2_Q4 := (bn195, bn3736)
def bn3738 : e2_Q5 := (bn3737, bn365)
def bn3739 : e2_Q6 := (bn3738, bn250)
def bn3740 : e2_Q7 := (bn3641, bn3739)
def bn3741 : e2_Q8 := (bn3614, bn3740)
noncomputable def h_b595_12 : ev_H := (bn3741 : e2_Q8)
def bc277 : ev_C := (10, [(0, 0, 0), (2, 88, 0), (2, 115, 0), (2, 114, 0), (2, 86, 0), (2, 112, 0), (11, 2147483648, 2147483688), (2, 118, 0), (2, 120, 0), (2, 131, 0), (2, 91, 0), (11, 2147483648, 2147483661), (2, 123, 0), (11, 2147483648, 2147483649), (11, 2147483648, 2147485248), (2, 87, 0), (2, 84, 0), (2, 122, 0), (2, 100, 0), (2, 132, 0), (11, 2147483648, 2147483668), (11, 2147483648, 2147485248), (1, 0, 4294967296), (11, 2147483648, 2147483653), (11, 2147483648, 2147485248), (2, 93, 0), (2, 104, 0), (11, 2147483648, 2147483678), (2, 89, 0), (2, 92, 0), (2, 119, 0), (2, 90, 0), (2, 94, 0), (2, 103, 0), (11, 2147483648, 2147483688), (11, 2147483648, 2147549184), (11, 0, 4294967295), (11, 2147483648, 2147485249), (11, 2147483648, 2147483653), (11, 2147483648, 2147483668), (2, 85, 0), (11, 0, 4294967295), (5, 0, 0), (2, 95, 0), (2, 96, 0), (2, 97, 0), (2, 98, 0), (2, 99, 0), (2, 101, 0), (2, 102, 0), (2, 105, 0), (2, 106, 0), (2, 107, 0), (2, 108, 0), (2, 109, 0), (2, 110, 0), (2, 111, 0), (11, 2147483648, 2147484768), (11, 2147482048, 2147483655), (11, 2147483648, 2147483738), (11, 2147483648, 2147483678), (11, 0, 4294967295), (11, 0, 4294967295), (11, 0, 4294967295), (11, 0, 4294967295), (11, 0, 4294967295), (2, 113, 0), (2, 116, 0), (2, 117, 0), (2, 121, 0), (11, 0, 4294967295), (11, 0, 4294967295), (2, 124, 0), (2, 125, 0), (11, 0, 4294967295), (2, 126, 0), (2, 127, 0), (2, 128, 0), (2, 129, 0), (2, 130, 0)])
def bn3742 : e2_Q1 := (bc277, bc3)
def bn3743 : e2_Q2 := (bn196, bn3742)
def bn3744 : e2_Q3 := (bn3743, bn3590)
def bn3745 : e2_Q4 := (bn195, bn3744)
def bn3746 : e2_Q5 := (bn3745, bn365)
def bn3747 : e2_Q6 := (bn3746, bn250)
def bn3748 : e2_Q7 := (bn3641, bn3747)
def bn3749 : e2_Q8 := (bn3614, bn3748)
noncomputable def h_b595_13 : ev_H := (bn3749 : e2_Q8)
def bc278 : ev_C := (10, [(0, 0, 0), (2, 88, 0), (2, 115, 0), (2, 114, 0), (2, 86, 0), (2, 112, 0), (11, 2147483648, 2147483688), (2, 118, 0), (2, 120, 0), (2, 131, 0), (2, 91, 0), (11, 2147483648, 2147483662), (2, 123, 0), (11, 2147483648, 2147483649), (11, 2147483648, 2147485248), (2, 87, 0), (2, 84, 0), (2, 122, 0), (2, 100, 0), (2, 132, 0), (11, 2147483648, 2147483668), (11, 2147483648, 2147485248), (1, 0, 4294967296), (11, 2147483648, 2147483653), (11, 2147483648, 2147485248), (2, 93, 0), (2, 104, 0), (11, 2147483648, 2147483678), (2, 89, 0), (2, 92, 0), (2, 119, 0), (2, 90, 0), (2, 94, 0), (2, 103, 0), (11, 2147483648, 2147483688), (11, 2147483648, 2147549184), (11, 0, 4294967295), (11, 2147483648, 2147485249), (11, 2147483648, 2147483653), (11, 2147483648, 2147483668), (2, 85, 0), (11, 0, 4294967295), (5, 0, 0), (2, 95, 0), (2, 96, 0), (2, 97, 0), (2, 98, 0), (2, 99, 0), (2, 101, 0), (2, 102, 0), (2, 105, 0), (2, 106, 0), (2, 107, 0), (2, 108, 0), (2, 109, 0), (2, 110, 0), (2, 111, 0), (11, 2147483648, 2147484768), (11, 2147482048, 2147483655), (11, 2147483648, 2147483738), (11, 2147483648, 2147483678), (11, 0, 4294967295), (11, 0, 4294967295), (11, 0, 4294967295), (11, 0, 4294967295), (11, 0, 4294967295), (2, 113, 0), (2, 116, 0), (2, 117, 0), (2, 121, 0), (11, 0, 4294967295), (11, 0, 4294967295), (2, 124, 0), (2, 125, 0), (11, 0, 4294967295), (2, 126, 0), (2, 127, 0), (2, 128, 0), (2, 129, 0), (2, 130, 0)])
def bn3750 : e2_Q1 := (bc278, bc3)
def bn3751 : e2_Q2 := (bn196, bn3750)
def bn3752 : e2_Q3 := (bn3751, bn3590)
def bn3753 : e2_Q4 := (bn195, bn3752)
def bn3754 : e2_Q5 := (bn3753, bn365)
def bn3755 : e2_Q6 := (bn3754, bn250)
def bn3756 : e2_Q7 := (bn3641, bn3755)
def bn3757 : e2_Q8 := (bn3614, bn3756)
noncomputable def h_b595_14 : ev_H := (bn3757 : e2_Q8)
def bc279 : ev_C := (10, [(0, 0, 0), (2, 88, 0), (2, 115, 0), (2, 114, 0), (2, 86, 0), (2, 112, 0), (11, 2147483648, 2147483688), (2, 118, 0), (2, 120, 0), (2, 131, 0), (2, 91, 0), (11, 2147483648, 2147483663), (2, 123, 0), (11, 2147483648, 2147483649), (11, 2147483648, 2147485248), (2, 87, 0), (2, 84, 0), (2, 122, 0), (2, 100, 0), (2, 132, 0), (11, 2147483648, 2147483668), (11, 2147483648, 2147485248), (1, 0, 4294967296), (11, 2147483648, 2147483653), (11, 2147483648, 2147485248), (2, 93, 0), (2, 104, 0), (11, 2147483648, 2147483678), (2, 89, 0), (2, 92, 0), (2, 119, 0), (2, 90, 0), (2, 94, 0), (2, 103, 0), (11, 2147483648, 2147483688), (11, 2147483648, 2147549184), (11, 0, 4294967295), (11, 2147483648, 2147485249), (11, 2147483648, 2147483653), (11, 2147483648, 2147483668), (2, 85, 0), (11, 0, 4294967295), (5, 0, 0), (2, 95, 0), (2, 96, 0), (2, 97, 0), (2, 98, 0), (2, 99, 0), (2, 101, 0), (2, 102, 0), (2, 105, 0), (2, 106, 0), (2, 107, 0), (2, 108, 0), (2, 109, 0), (2, 110, 0), (2, 111, 0), (11, 2147483648, 2147484768), (11, 2147482048, 2147483655), (11, 2147483648, 2147483738), (11, 2147483648, 2147483678), (11, 0, 4294967295), (11, 0, 4294967295), (11, 0, 4294967295), (11, 0, 4294967295), (11, 0, 4294967295), (2, 113, 0), (2, 116, 0), (2, 117, 0), (2, 121, 0), (11, 0, 4294967295), (11, 0, 4294967295), (2, 124, 0), (2, 125, 0), (11, 0, 4294967295), (2, 126, 0), (2, 127, 0), (2, 128, 0), (2, 129, 0), (2, 130, 0)])
def bn3758 : e2_Q1 := (bc279, bc3)
def bn3759 : e2_Q2 := (bn196, bn3758)
def bn3760 : e2_Q3 := (bn3759, bn3590)
def bn3761 : e2_Q4 := (bn195, bn3760)
def bn3762 : e2_Q5 := (bn3761, bn365)
def bn3763 : e2_Q6 := (bn3762, bn250)
def bn3764 : e2_Q7 := (bn3641, bn3763)
def bn3765 : e2_Q8 := (bn3614, bn3764)
noncomputable def h_b595_15 : ev_H := (bn3765 : e2_Q8)
def bc280 : ev_C := (10, [(0, 0, 0), (2, 88, 0), (2, 115, 0), (2, 114, 0), (2, 86, 0), (2, 112, 0), (11, 2147483648, 2147483688), (2, 118, 0), (2, 120, 0), (2, 131, 0), (2, 91, 0), (11, 2147483648, 2147483664), (2, 123, 0), (11, 2147483648, 2147483649), (11, 2147483648, 2147485248), (2, 87, 0), (2, 84, 0), (2, 122, 0), (2, 100, 0), (2, 132, 0), (11, 2147483648, 2147483668), (11, 2147483648, 2147485248), (1, 0, 4294967296), (11, 2147483648, 2147483653), (11, 2147483648, 2147485248), (2, 93, 0), (2, 104, 0), (11, 2147483648, 2147483678), (2, 89, 0), (2, 92, 0), (2, 119, 0), (2, 90, 0), (2, 94, 0), (2, 103, 0), (11, 2147483648, 2147483688), (11, 2147483648, 2147549184), (11, 0, 4294967295), (11, 2147483648, 2147485249), (11, 2147483648, 2147483653), (11, 2147483648, 2147483668), (2, 85, 0), (11, 0, 4294967295), (5, 0, 0), (2, 95, 0), (2, 96, 0), (2, 97, 0), (2, 98, 0), (2, 99, 0), (2, 101, 0), (2, 102, 0), (2, 105, 0), (2, 106, 0), (2, 107, 0), (2, 108, 0), (2, 109, 0), (2, 110, 0), (2, 111, 0), (11, 2147483648, 2147484768), (11, 2147482048, 2147483655), (11, 2147483648, 2147483738), (11, 2147483648, 2147483678), (11, 0, 4294967295), (11, 0, 4294967295), (11, 0, 4294967295), (11, 0, 4294967295), (11, 0, 4294967295), (2, 113, 0), (2, 116, 0), (2, 117, 0), (2, 121, 0), (11, 0, 4294967295), (11, 0, 4294967295), (2, 124, 0), (2, 125, 0), (11, 0, 4294967295), (2, 126, 0), (2, 127, 0), (2, 128, 0), (2, 129, 0), (2, 130, 0)])
def bn3766 : e2_Q1 := (bc280, bc3)
def bn3767 : e2_Q2 := (bn196, bn3766)
def bn3768 : e2_Q3 := (bn3767, bn3590)
def bn3769 : e2_Q4 := (bn195, bn3768)
def bn3770 : e2_Q5 := (bn3769, bn365)
def bn3771 : e2_Q6 := (bn3770, bn250)
def bn3772 : e2_Q7 := (bn3641, bn3771)
def bn3773 : e2_Q8 := (bn3614, bn3772)
noncomputable def h_b595_16 : ev_H := (bn3773 : e2_Q8)
def bc281 : ev_C := (10, [(0, 0, 0), (2, 88, 0), (2, 115, 0), (2, 114, 0), (2, 86, 0), (2, 112, 0), (11, 2147483648, 2147483688), (2, 118, 0), (2, 120, 0), (2, 131, 0), (2, 91, 0), (11, 2147483648, 2147483665), (2, 123, 0), (11, 2147483648, 2147483649), (11, 2147483648, 2147485248), (2, 87, 0), (2, 84, 0), (2, 122, 0), (2, 100, 0), (2, 132, 0), (11, 2147483648, 2147483668), (11, 2147483648, 2147485248), (1, 0, 4294967296), (11, 2147483648, 2147483653), (11, 2147483648, 2147485248), (2, 93, 0), (2, 104, 0), (11, 2147483648, 2147483678), (2, 89, 0), (2, 92, 0), (2, 119, 0), (2, 90, 0), (2, 94, 0), (2, 103, 0), (11, 2147483648, 2147483688), (11, 2147483648, 2147549184), (11, 0, 4294967295), (11, 2147483648, 2147485249), (11, 2147483648, 2147483653), (11, 2147483648, 2147483668), (2, 85, 0), (11, 0, 4294967295), (5, 0, 0), (2, 95, 0), (2, 96, 0), (2, 97, 0), (2, 98, 0), (2, 99, 0), (2, 101, 0), (2, 102, 0), (2, 105, 0), (2, 106, 0), (2, 107, 0), (2, 108, 0), (2, 109, 0), (2, 110, 0), (2, 111, 0), (11, 2147483648, 2147484768), (11, 2147482048, 2147483655), (11, 2147483648, 2147483738), (11, 2147483648, 2147483678), (11, 0, 4294967295), (11, 0, 4294967295), (11, 0, 4294967295), (11, 0, 4294967295), (11, 0, 4294967295), (2, 113, 0), (2, 116, 0), (2, 117, 0), (2, 121, 0), (11, 0, 4294967295), (11, 0, 4294967295), (2, 124, 0), (2, 125, 0), (11, 0, 4294967295), (2, 126, 0), (2, 127, 0), (2, 128, 0), (2, 129, 0), (2, 130, 0)])
def bn3774 : e2_Q1 := (bc281, bc3)
def bn3775 : e2_Q2 := (bn196, bn3774)
def bn3776 : e2_Q3 := (bn3775, bn3590)
def bn3777 : e2_Q4 := (bn195, bn3776)
def bn3778 : e2_Q5 := (bn3777, bn365)
def bn3779 : e2_Q6 := (bn3778, bn250)
def bn3780 : e2_Q7 := (bn3641, bn3779)
def bn3781 : e2_Q8 := (bn3614, bn3780)
noncomputable def h_b595_17 : ev_H := (bn3781 : e2_Q8)
def bc282 : ev_C := (10, [(0, 0, 0), (2, 88, 0), (2, 115, 0), (2, 114, 0), (2, 86, 0), (2, 112, 0), (11, 2147483648, 2147483688), (2, 118, 0), (2, 120, 0), (2, 131, 0), (2, 91, 0), (11, 2147483648, 2147483666), (2, 123, 0), (11, 2147483648, 2147483649), (11, 2147483648, 2147485248), (2, 87, 0), (2, 84, 0), (2, 122, 0), (2, 100, 0), (2, 132, 0), (11, 2147483648, 2147483668), (11, 2147483648, 2147485248), (1, 0, 4294967296), (11, 2147483648, 2147483653), (11, 2147483648, 2147485248), (2, 93, 0), (2, 104, 0), (11, 2147483648, 2147483678), (2, 89, 0), (2, 92, 0), (2, 119, 0), (2, 90, 0), (2, 94, 0), (2, 103, 0), (11, 2147483648, 2147483688), (11, 2147483648, 2147549184), (11, 0, 4294967295), (11, 2147483648, 2147485249), (11, 2147483648, 2147483653), (11, 2147483648, 2147483668), (2, 85, 0), (11, 0, 4294967295), (5, 0, 0), (2, 95, 0), (2, 96, 0), (2, 97, 0), (2, 98, 0), (2, 99, 0), (2, 101, 0), (2, 102, 0), (2, 105, 0), (2, 106, 0), (2, 107, 0), (2, 108, 0), (2, 109, 0), (2, 110, 0), (2, 111, 0), (11, 2147483648, 2147484768), (11, 2147482048, 2147483655), (11, 2147483648, 2147483738), (11, 2147483648, 2147483678), (11, 0, 4294967295), (11, 0, 4294967295), (11, 0, 4294967295), (11, 0, 4294967295), (11, 0, 4294967295), (2, 113, 0), (2, 116, 0), (2, 117, 0), (2, 121, 0), (11, 0, 4294967295), (11, 0, 4294967295), (2, 124, 0), (2, 125, 0), (11, 0, 4294967295), (2, 126, 0), (2, 127, 0), (2, 128, 0), (2, 129, 0), (2, 130, 0)])
def bn3782 : e2_Q1 := (bc282, bc3)
def bn3783 : e2_Q2 := (bn196, bn3782)
def bn3784 : e2_Q3 := (bn3783, bn3590)
def bn3785 : e2_Q4 := (bn195, bn3784)
def bn3786 : e2_Q5 := (bn3785, bn365)
def bn3787 : e2_Q6 := (bn3786, bn250)
def bn3788 : e2_Q7 := (bn3641, bn3787)
def bn3789 : e2_Q8 := (bn3614, bn3788)
noncomputable def h_b595_18 : ev_H := (bn3789 : e2_Q8)
def bc283 : ev_C := (10, [(0, 0, 0), (2, 88, 0), (2, 115, 0), (2, 114, 0), (2, 86, 0), (2, 112, 0), (11, 2147483648, 2147483688), (2, 118, 0), (2, 120, 0), (2, 131, 0), (2, 91, 0), (11, 2147483648, 2147483667), (2, 123, 0), (11, 2147483648, 2147483649), (11, 2147483648, 2147485248), (2, 87, 0), (2, 84, 0), (2, 122, 0), (2, 100, 0), (2, 132, 0), (11, 2147483648, 2147483668), (11, 2147483648, 2147485248), (1, 0, 4294967296), (11, 2147483648, 2147483653), (11, 2147483648, 2147485248), (2, 93, 0), (2, 104, 0), (11, 2147483648, 2147483678), (2, 89, 0), (2, 92, 0), (2, 119, 0), (2, 90, 0), (2, 94, 0), (2, 103, 0), (11, 2147483648, 2147483688), (11, 2147483648, 2147549184), (11, 0, 4294967295), (11, 2147483648, 2147485249), (11, 2147483648, 2147483653), (11, 2147483648, 2147483668), (2, 85, 0), (11, 0, 4294967295), (5, 0, 0), (2, 95, 0), (2, 96, 0), (2, 97, 0), (2, 98, 0), (2, 99, 0), (2, 101, 0), (2, 102, 0), (2, 105, 0), (2, 106, 0), (2, 107, 0), (2, 108, 0), (2, 109, 0), (2, 110, 0), (2, 111, 0), (11, 2147483648, 2147484768), (11, 2147482048, 2147483655), (11, 2147483648, 2147483738), (11, 2147483648, 2147483678), (11, 0, 4294967295), (11, 0, 4294967295), (11, 0, 4294967295), (11, 0, 4294967295), (11, 0, 4294967295), (2, 113, 0), (2, 116, 0), (2, 117, 0), (2, 121, 0), (11, 0, 4294967295), (11, 0, 4294967295), (2, 124, 0), (2, 125, 0), (11, 0, 4294967295), (2, 126, 0), (2, 127, 0), (2, 128, 0), (2, 129, 0), (2, 130, 0)])
def bn3790 : e2_Q1 := (bc283, bc3)
def bn3791 : e2_Q2 := (bn196, bn3790)
def bn3792 : e2_Q3 := (bn3791, bn3590)
def bn3793 : e2_Q4 := (bn195, bn3792)
def bn3794 : e2_Q5 := (bn3793, bn365)
def bn3795 : e2_Q6 := (bn3794, bn250)
def bn3796 : e2_Q7 := (bn3641, bn3795)
def bn3797 : e2_Q8 := (bn3614, bn3796)
noncomputable def h_b595_19 : ev_H := (bn3797 : e2_Q8)
noncomputable def h_b595_20 : ev_H := (bn3643 : e2_Q8)
def bc284 : ev_C := (10, [(0, 0, 0), (2, 88, 0), (2, 115, 0), (2, 114, 0), (2, 86, 0), (2, 112, 0), (11, 2147483648, 2147483688), (2, 118, 0), (2, 120, 0), (2, 131, 0), (2, 91, 0), (11, 2147483649, 2147483668), (2, 123, 0), (11, 2147483648, 2147483649), (11, 2147483648, 2147485248), (2, 87, 0), (2, 84, 0), (2, 122, 0), (2, 100, 0), (2, 132, 0), (11, 2147483648, 2147483668), (11, 2147483648, 2147485248), (1, 0, 4294967296), (11, 2147483648, 2147483653), (11, 2147483648, 2147485248), (2, 93, 0), (2, 104, 0), (11, 2147483648, 2147483678), (2, 89, 0), (2, 92, 0), (2, 119, 0), (2, 90, 0), (2, 94, 0), (2, 103, 0), (11, 2147483648, 2147483688), (11, 2147483648, 2147549184), (11, 0, 4294967295), (11, 2147483648, 2147485249), (11, 2147483648, 2147483653), (11, 2147483648, 2147483668), (2, 85, 0), (11, 0, 4294967295), (5, 0, 0), (2, 95, 0), (2, 96, 0), (2, 97, 0), (2, 98, 0), (2, 99, 0), (2, 101, 0), (2, 102, 0), (2, 105, 0), (2, 106, 0), (2, 107, 0), (2, 108, 0), (2, 109, 0), (2, 110, 0), (2, 111, 0), (11, 2147483648, 2147484768), (11, 2147482048, 2147483655), (11, 2147483648, 2147483738), (11, 2147483648, 2147483678), (11, 0, 4294967295), (11, 0, 4294967295), (11, 0, 4294967295), (11, 0, 4294967295), (11, 0, 4294967295), (2, 113, 0), (2, 116, 0), (2, 117, 0), (2, 121, 0), (11, 0, 4294967295), (11, 0, 4294967295), (2, 124, 0), (2, 125, 0), (11, 0, 4294967295), (2, 126, 0), (2, 127, 0), (2, 128, 0), (2, 129, 0), (2, 130, 0)])
def bn3798 : e2_Q1 := (bc284, bc3)
def bn3799 : e2_Q2 := (bn196, bn3798)
def bn3800 : e2_Q3 := (bn3799, bn3590)
def bn3801 : e2_Q4 := (bn195, bn3800)
def bn3802 : e2_Q5 := (bn3801, bn365)
def bn3803 : e2_Q6 := (bn3802, bn250)
def bn3804 : e2_Q7 := (bn3641, bn3803)
def bn3805 : e2_Q8 := (bn3614, bn3804)
noncomputable def h_b595_21 : ev_H := (bn3805 : e2_Q8)
noncomputable def h_b595_22 : ev_H := (bn3805 : e2_Q8)
noncomputable def h_b595_23 : ev_H := (bn3805 : e2_Q8)
noncomputable def h_b595_24 : ev_H := (bn3805 : e2_Q8)
noncomputable def h_b595_25 : ev_H := (bn3805 : e2_Q8)
noncomputable def cu_b595_120 : List e2_Cu := [([(2, 83, 0), (11, 0, 4294967295), (0, 0, 0), (0, 8, 0), (9, 0, 0)], [(2147483648, 2147583648, 0, 0), (2147483649, 2147483649, 1, 0)], h_b595_0),
  ([(2, 83, 0), (11, 0, 4294967295), (0, 1, 0), (11, 2147483648, 2147483656), (11, 2147483647, 2147483648)], [(2147483648, 2147583648, 0, 0), (2147483649, 2147483649, 1, 0)], h_b595_1),
  ([(2, 83, 0), (11, 0, 4294967295), (0, 2, 0), (11, 2147483648, 2147483656), (11, 2147483647, 2147483648)], [(2147483648, 2147583648, 0, 0), (2147483649, 2147483649, 1, 0)], h_b595_2),
  ([(2, 83, 0), (11, 0, 4294967295), (0, 3, 0), (11, 2147483648, 2147483656), (11, 2147483647, 2147483648)], [(2147483648, 2147583648, 0, 0), (2147483649, 2147483649, 1, 0)], h_b595_3),
  ([(2, 83, 0), (11, 0, 4294967295), (0, 4, 0), (11, 2147483648, 2147483656), (11, 2147483647, 2147483648)], [(2147483648, 2147583648, 0, 0), (2147483649, 2147483649, 1, 0)], h_b595_4),
  ([(2, 83, 0), (11, 0, 4294967295), (0, 5, 0), (11, 2147483648, 2147483656), (11, 2147483647, 2147483648)], [(2147483648, 2147583648, 0, 0), (2147483649, 2147483649, 1, 0)], h_b595_5),
  ([(2, 83, 0), (11, 0, 4294967295), (0, 6, 0), (11, 2147483648, 2147483656), (11, 2147483647, 2147483648)], [(2147483648, 2147583648, 0, 0), (2147483649, 2147483649, 1, 0)], h_b595_6),
  ([(2, 83, 0), (11, 0, 4294967295), (0, 7, 0), (11, 2147483648, 2147483656), (11, 2147483647, 2147483648)], [(2147483648, 2147583648, 0, 0), (2147483649, 2147483649, 1, 0)], h_b595_7),
  ([(2, 83, 0), (11, 0, 4294967295), (0, 8, 0), (11, 2147483648, 2147483656), (11, 2147483647, 2147483648)], [(2147483648, 2147583648, 0, 0), (2147483649, 2147483649, 1, 0)], h_b595_8),
  ([(2, 83, 0), (11, 0, 4294967295), (0, 9, 0), (11, 2147483648, 2147483656), (11, 2147483647, 2147483648)], [(2147483648, 2147583648, 0, 0), (2147483649, 2147483649, 1, 0)], h_b595_9),
  ([(2, 83, 0), (11, 0, 4294967295), (0, 10, 0), (11, 2147483648, 2147483656), (11, 2147483647, 2147483648)], [(2147483648, 2147583648, 0, 0), (2147483649, 2147483649, 1, 0)], h_b595_10),
  ([(2, 83, 0), (11, 0, 4294967295), (0, 11, 0), (11, 2147483648, 2147483656), (11, 2147483647, 2147483648)], [(2147483648, 2147583648, 0, 0), (2147483649, 2147483649, 1, 0)], h_b595_11),
  ([(2, 83, 0), (11, 0, 4294967295), (0, 12, 0), (11, 2147483648, 2147483656), (11, 2147483647, 2147483648)], [(2147483648, 2147583648, 0, 0), (2147483649, 2147483649, 1, 0)], h_b595_12),
  ([(2, 83, 0), (11, 0, 4294967295), (0, 13, 0), (11, 2147483648, 2147483656), (11, 2147483647, 2147483648)], [(2147483648, 2147583648, 0, 0), (2147483649, 2147483649, 1, 0)], h_b595_13),
  ([(2, 83, 0), (11, 0, 4294967295), (0, 14, 0), (11, 2147483648, 2147483656), (11, 2147483647, 2147483648)], [(2147483648, 2147583648, 0, 0), (2147483649, 2147483649, 1, 0)], h_b595_14),
  ([(2, 83, 0), (11, 0, 4294967295), (0, 15, 0), (11, 2147483648, 2147483656), (11, 2147483647, 2147483648)], [(2147483648, 2147583648, 0, 0), (2147483649, 2147483649, 1, 0)], h_b595_15),
  ([(2, 83, 0), (11, 0, 4294967295), (0, 16, 0), (11, 2147483648, 2147483656), (11, 2147483647, 2147483648)], [(2147483648, 2147583648, 0, 0), (2147483649, 2147483649, 1, 0)], h_b595_16),
  ([(2, 83, 0), (11, 0, 4294967295), (0, 17, 0), (11, 2147483648, 2147483656), (11, 2147483647, 2147483648)], [(2147483648, 2147583648, 0, 0), (2147483649, 2147483649, 1, 0)], h_b595_17),
  ([(2, 83, 0), (11, 0, 4294967295), (0, 18, 0), (11, 2147483648, 2147483656), (11, 2147483647, 2147483648)], [(2147483648, 2147583648, 0, 0), (2147483649, 2147483649, 1, 0)], h_b595_18),
  ([(2, 83, 0), (11, 0, 4294967295), (0, 19, 0), (11, 2147483648, 2147483656), (11, 2147483647, 2147483648)], [(2147483648, 2147583648, 0, 0), (2147483649, 2147483649, 1, 0)], h_b595_19),
  ([(2, 83, 0), (11, 0, 4294967295), (0, 20, 0), (11, 2147483648, 2147483656), (11, 2147483647, 2147483648)], [(2147483648, 2147583648, 0, 0), (2147483649, 2147483649, 1, 0)], h_b595_20),
  ([(2, 83, 0), (11, 0, 4294967295), (0, 21, 0), (0, 0, 0), (0, 0, 0)], [(2147483648, 2147583648, 0, 0), (2147483649, 2147483649, 1, 0)], h_b595_21),
  ([(2, 83, 0), (11, 0, 4294967295), (0, 22, 0), (0, 0, 0), (0, 0, 0)], [(2147483648, 2147583648, 0, 0), (2147483649, 2147483649, 1, 0)], h_b595_22),
  ([(2, 83, 0), (11, 0, 4294967295), (0, 23, 0), (0, 0, 0), (0, 0, 0)], [(2147483648, 2147583648, 0, 0), (2147483649, 2147483649, 1, 0)], h_b595_23),
  ([(2, 83, 0), (11, 0, 4294967295), (0, 24, 0), (0, 0, 0), (0, 0, 0)], [(2147483648, 2147583648, 0, 0), (2147483649, 2147483649, 1, 0)], h_b595_24),
  ([(2, 83, 0), (11, 0, 4294967295), (0, 25, 0), (0, 0, 0), (0, 0, 0)], [(2147483648, 2147583648, 0, 0), (2147483649, 2147483649, 1, 0)], h_b595_25)]
noncomputable def cl_b595_e : List (Nat × e2_S) := [(2, e2_cutL (al_b595_26.set 2 (11, 2147483648, 2147483657)) 2 (E_b595_26.take 2) h_b595_26)]
set_option maxRecDepth 1000000 in
theorem ck_b595_e : e2_run (e2_orG 231 83 11 2 2147483648 2147483668 as_b593 Eb_b593 f_b593 rs_b593 (e2_orG 231 83 11 2 2147483648 2147483668 as_b592 Eb_b592 f_b592 rs_b592 (e2_orG 231 83 11 2 2147483648 2147483668 as_b591 Eb_b591 f_b591 rs_b591 (e2_orG 231 83 11 2 2147483648 2147483668 as_b590 Eb_b590 f_b590 rs_b590 (e2_orG 231 83 11 2 2147483648 2147483668 as_b589 Eb_b589 f_b589 rs_b589 (e2_orG 231 83 11 2 2147483648 2147483668 as_b588 Eb_b588 f_b588 rs_b588 (e2_orG 231 83 11 2 2147483648 2147483668 as_b587 Eb_b587 f_b587 rs_b587 (e2_orG 231 83 11 2 2147483648 2147483668 as_b586 Eb_b586 f_b586 rs_b586 (e2_orG 231 83 11 2 2147483648 2147483668 as_b585 Eb_b585 f_b585 rs_b585 (e2_orG 231 83 11 2 2147483648 2147483668 as_b584 Eb_b584 f_b584 rs_b584 (e2_orG 231 83 11 2 2147483648 2147483668 as_b583 Eb_b583 f_b583 rs_b583 (e2_orG 231 83 11 2 2147483648 2147483668 as_b582 Eb_b582 f_b582 rs_b582 (e2_orG 231 83 11 2 2147483648 2147483668 as_b581 Eb_b581 f_b581 rs_b581 (e2_orG 231 83 11 2 2147483648 2147483668 as_b580 Eb_b580 f_b580 rs_b580 (e2_orG 231 83 11 2 2147483648 2147483668 as_b579 Eb_b579 f_b579 rs_b579 (e2_orG 231 83 11 2 2147483648 2147483668 as_b578 Eb_b578 f_b578 rs_b578 (e2_orG 231 83 11 2 2147483648 2147483668 as_b577 Eb_b577 f_b577 rs_b577 (e2_orG 231 83 11 2 2147483648 2147483668 as_b576 Eb_b576 f_b576 rs_b576 (e2_orG 231 83 11 2 2147483648 2147483668 as_b575 Eb_b575 f_b575 rs_b575 (e2_orG 231 83 11 2 2147483648 2147483668 as_b574 Eb_b574 f_b574 rs_b574 (e2_cal S_b595 I_b595 4000 1))))))))))))))))))))) (e2_fin rs_b595) e2x_230 (e2_bpL cl_b595_e) (e2_cutA cl_b595_e) 4000 (e2_seek e2x_230 0) (e2_al 5 as_b595) [] E_b595 f_b595 = true := by decide +kernel
noncomputable def cl_b595_26 : List (Nat × e2_S) := [(2, e2_cutL (al_b595_26.set 2 (13, 10, 2147483657)) 2 (E_b595_26.take 2) h_b595_26),
  (49, e2_cutL (al_b595_27.set 2 (11, 2147483647, 2147483667)) 2 (E_b595_27.take 2) h_b595_27)]
set_option maxRecDepth 1000000 in
theorem ck_b595_26 : e2_runM (e2_orG 231 83 11 2 2147483648 2147483668 as_b593 Eb_b593 f_b593 rs_b593 (e2_orG 231 83 11 2 2147483648 2147483668 as_b592 Eb_b592 f_b592 rs_b592 (e2_orG 231 83 11 2 2147483648 2147483668 as_b591 Eb_b591 f_b591 rs_b591 (e2_orG 231 83 11 2 2147483648 2147483668 as_b590 Eb_b590 f_b590 rs_b590 (e2_orG 231 83 11 2 2147483648 2147483668 as_b589 Eb_b589 f_b589 rs_b589 (e2_orG 231 83 11 2 2147483648 2147483668 as_b588 Eb_b588 f_b588 rs_b588 (e2_orG 231 83 11 2 2147483648 2147483668 as_b587 Eb_b587 f_b587 rs_b587 (e2_orG 231 83 11 2 2147483648 2147483668 as_b586 Eb_b586 f_b586 rs_b586 (e2_orG 231 83 11 2 2147483648 2147483668 as_b585 Eb_b585 f_b585 rs_b585 (e2_orG 231 83 11 2 2147483648 2147483668 as_b584 Eb_b584 f_b584 rs_b584 (e2_orG 231 83 11 2 2147483648 2147483668 as_b583 Eb_b583 f_b583 rs_b583 (e2_orG 231 83 11 2 2147483648 2147483668 as_b582 Eb_b582 f_b582 rs_b582 (e2_orG 231 83 11 2 2147483648 2147483668 as_b581 Eb_b581 f_b581 rs_b581 (e2_orG 231 83 11 2 2147483648 2147483668 as_b580 Eb_b580 f_b580 rs_b580 (e2_orG 231 83 11 2 2147483648 2147483668 as_b579 Eb_b579 f_b579 rs_b579 (e2_orG 231 83 11 2 2147483648 2147483668 as_b578 Eb_b578 f_b578 rs_b578 (e2_orG 231 83 11 2 2147483648 2147483668 as_b577 Eb_b577 f_b577 rs_b577 (e2_orG 231 83 11 2 2147483648 2147483668 as_b576 Eb_b576 f_b576 rs_b576 (e2_orG 231 83 11 2 2147483648 2147483668 as_b575 Eb_b575 f_b575 rs_b575 (e2_orG 231 83 11 2 2147483648 2147483668 as_b574 Eb_b574 f_b574 rs_b574 (e2_cal S_b595 I_b595 4000 1))))))))))))))))))))) (e2_fin rs_b595) e2x_230 (e2_bpL cl_b595_26) (e2_cutA cl_b595_26) 4000 (e2_seek e2x_230 2) al_b595_26 [] E_b595_26 h_b595_26 = true := by decide +kernel
set_option maxRecDepth 1000000 in
theorem ci_b595_26 : e2_idl 2 (al_b595_26.set 2 (9, 0, 0)) = true := by decide +kernel
set_option maxRecDepth 1000000 in
theorem cj_b595_26 : e2_idh 2 8 h_b595_26 = true := by decide +kernel
noncomputable def cl_b595_27 : List (Nat × e2_S) := [(120, e2_cutS cu_b595_120),
  (55, e2_cutL (al_b595_28.set 3 (11, 2147483648, 2147483657)) 3 (E_b595_28.take 3) h_b595_28)]
set_option maxRecDepth 1000000 in
theorem ck_b595_27 : e2_runM (e2_orG 231 83 11 2 2147483648 2147483668 as_b593 Eb_b593 f_b593 rs_b593 (e2_orG 231 83 11 2 2147483648 2147483668 as_b592 Eb_b592 f_b592 rs_b592 (e2_orG 231 83 11 2 2147483648 2147483668 as_b591 Eb_b591 f_b591 rs_b591 (e2_orG 231 83 11 2 2147483648 2147483668 as_b590 Eb_b590 f_b590 rs_b590 (e2_orG 231 83 11 2 2147483648 2147483668 as_b589 Eb_b589 f_b589 rs_b589 (e2_orG 231 83 11 2 2147483648 2147483668 as_b588 Eb_b588 f_b588 rs_b588 (e2_orG 231 83 11 2 2147483648 2147483668 as_b587 Eb_b587 f_b587 rs_b587 (e2_orG 231 83 11 2 2147483648 2147483668 as_b586 Eb_b586 f_b586 rs_b586 (e2_orG 231 83 11 2 2147483648 2147483668 as_b585 Eb_b585 f_b585 rs_b585 (e2_orG 231 83 11 2 2147483648 2147483668 as_b584 Eb_b584 f_b584 rs_b584 (e2_orG 231 83 11 2 2147483648 2147483668 as_b583 Eb_b583 f_b583 rs_b583 (e2_orG 231 83 11 2 2147483648 2147483668 as_b582 Eb_b582 f_b582 rs_b582 (e2_orG 231 83 11 2 2147483648 2147483668 as_b581 Eb_b581 f_b581 rs_b581 (e2_orG 231 83 11 2 2147483648 2147483668 as_b580 Eb_b580 f_b580 rs_b580 (e2_orG 231 83 11 2 2147483648 2147483668 as_b579 Eb_b579 f_b579 rs_b579 (e2_orG 231 83 11 2 2147483648 2147483668 as_b578 Eb_b578 f_b578 rs_b578 (e2_orG 231 83 11 2 2147483648 2147483668 as_b577 Eb_b577 f_b577 rs_b577 (e2_orG 231 83 11 2 2147483648 2147483668 as_b576 Eb_b576 f_b576 rs_b576 (e2_orG 231 83 11 2 2147483648 2147483668 as_b575 Eb_b575 f_b575 rs_b575 (e2_orG 231 83 11 2 2147483648 2147483668 as_b574 Eb_b574 f_b574 rs_b574 (e2_cal S_b595 I_b595 4000 1))))))))))))))))))))) (e2_fin rs_b595) e2x_230 (e2_bpL cl_b595_27) (e2_cutA cl_b595_27) 4000 (e2_seek e2x_230 49) al_b595_27 [] E_b595_27 h_b595_27 = true := by decide +kernel
set_option maxRecDepth 1000000 in
theorem ci_b595_27 : e2_idl 2 (al_b595_27.set 2 (9, 0, 0)) = true := by decide +kernel
set_option maxRecDepth 1000000 in
theorem cj_b595_27 : e2_idh 2 8 h_b595_27 = true := by decide +kernel
noncomputable def cl_b595_28 : List (Nat × e2_S) := [(49, e2_cutL (al_b595_27.set 2 (12, 10, 2147483647)) 2 (E_b595_27.take 2) h_b595_27),
  (55, e2_cutL (al_b595_28.set 3 (13, 11, 2147483657)) 3 (E_b595_28.take 3) h_b595_28)]
set_option maxRecDepth 1000000 in
theorem ck_b595_28 : e2_runM (e2_orG 231 83 11 2 2147483648 2147483668 as_b593 Eb_b593 f_b593 rs_b593 (e2_orG 231 83 11 2 2147483648 2147483668 as_b592 Eb_b592 f_b592 rs_b592 (e2_orG 231 83 11 2 2147483648 2147483668 as_b591 Eb_b591 f_b591 rs_b591 (e2_orG 231 83 11 2 2147483648 2147483668 as_b590 Eb_b590 f_b590 rs_b590 (e2_orG 231 83 11 2 2147483648 2147483668 as_b589 Eb_b589 f_b589 rs_b589 (e2_orG 231 83 11 2 2147483648 2147483668 as_b588 Eb_b588 f_b588 rs_b588 (e2_orG 231 83 11 2 2147483648 2147483668 as_b587 Eb_b587 f_b587 rs_b587 (e2_orG 231 83 11 2 2147483648 2147483668 as_b586 Eb_b586 f_b586 rs_b586 (e2_orG 231 83 11 2 2147483648 2147483668 as_b585 Eb_b585 f_b585 rs_b585 (e2_orG 231 83 11 2 2147483648 2147483668 as_b584 Eb_b584 f_b584 rs_b584 (e2_orG 231 83 11 2 2147483648 2147483668 as_b583 Eb_b583 f_b583 rs_b583 (e2_orG 231 83 11 2 2147483648 2147483668 as_b582 Eb_b582 f_b582 rs_b582 (e2_orG 231 83 11 2 2147483648 2147483668 as_b581 Eb_b581 f_b581 rs_b581 (e2_orG 231 83 11 2 2147483648 2147483668 as_b580 Eb_b580 f_b580 rs_b580 (e2_orG 231 83 11 2 2147483648 2147483668 as_b579 Eb_b579 f_b579 rs_b579 (e2_orG 231 83 11 2 2147483648 2147483668 as_b578 Eb_b578 f_b578 rs_b578 (e2_orG 231 83 11 2 2147483648 2147483668 as_b577 Eb_b577 f_b577 rs_b577 (e2_orG 231 83 11 2 2147483648 2147483668 as_b576 Eb_b576 f_b576 rs_b576 (e2_orG 231 83 11 2 2147483648 2147483668 as_b575 Eb_b575 f_b575 rs_b575 (e2_orG 231 83 11 2 2147483648 2147483668 as_b574 Eb_b574 f_b574 rs_b574 (e2_cal S_b595 I_b595 4000 1))))))))))))))))))))) (e2_fin rs_b595) e2x_230 (e2_bpL cl_b595_28) (e2_cutA cl_b595_28) 4000 (e2_seek e2x_230 55) al_b595_28 [] E_b595_28 h_b595_28 = true := by decide +kernel
set_option maxRecDepth 1000000 in
theorem ci_b595_28 : e2_idl 3 (al_b595_28.set 3 (9, 0, 0)) = true := by decide +kernel
set_option maxRecDepth 1000000 in
theorem cj_b595_28 : e2_idh 3 8 h_b595_28 = true := by decide +kernel
set_option maxRecDepth 1000000 in
theorem ck_b595_u120 : e2_cutsB (e2_orG 231 83 11 2 2147483648 2147483668 as_b593 Eb_b593 f_b593 rs_b593 (e2_orG 231 83 11 2 2147483648 2147483668 as_b592 Eb_b592 f_b592 rs_b592 (e2_orG 231 83 11 2 2147483648 2147483668 as_b591 Eb_b591 f_b591 rs_b591 (e2_orG 231 83 11 2 2147483648 2147483668 as_b590 Eb_b590 f_b590 rs_b590 (e2_orG 231 83 11 2 2147483648 2147483668 as_b589 Eb_b589 f_b589 rs_b589 (e2_orG 231 83 11 2 2147483648 2147483668 as_b588 Eb_b588 f_b588 rs_b588 (e2_orG 231 83 11 2 2147483648 2147483668 as_b587 Eb_b587 f_b587 rs_b587 (e2_orG 231 83 11 2 2147483648 2147483668 as_b586 Eb_b586 f_b586 rs_b586 (e2_orG 231 83 11 2 2147483648 2147483668 as_b585 Eb_b585 f_b585 rs_b585 (e2_orG 231 83 11 2 2147483648 2147483668 as_b584 Eb_b584 f_b584 rs_b584 (e2_orG 231 83 11 2 2147483648 2147483668 as_b583 Eb_b583 f_b583 rs_b583 (e2_orG 231 83 11 2 2147483648 2147483668 as_b582 Eb_b582 f_b582 rs_b582 (e2_orG 231 83 11 2 2147483648 2147483668 as_b581 Eb_b581 f_b581 rs_b581 (e2_orG 231 83 11 2 2147483648 2147483668 as_b580 Eb_b580 f_b580 rs_b580 (e2_orG 231 83 11 2 2147483648 2147483668 as_b579 Eb_b579 f_b579 rs_b579 (e2_orG 231 83 11 2 2147483648 2147483668 as_b578 Eb_b578 f_b578 rs_b578 (e2_orG 231 83 11 2 2147483648 2147483668 as_b577 Eb_b577 f_b577 rs_b577 (e2_orG 231 83 11 2 2147483648 2147483668 as_b576 Eb_b576 f_b576 rs_b576 (e2_orG 231 83 11 2 2147483648 2147483668 as_b575 Eb_b575 f_b575 rs_b575 (e2_orG 231 83 11 2 2147483648 2147483668 as_b574 Eb_b574 f_b574 rs_b574 (e2_cal S_b595 I_b595 4000 1))))))))))))))))))))) (e2_fin rs_b595) e2x_230 120 4000 cu_b595_120 = true := by decide +kernel
set_option maxRecDepth 1000000 in
theorem cs_b595 (hen : en_ok) (l : Launch) : e2_smOk l 5 s_b595 := by
  refine e2_conC (H := 4) (C := evd_230) (call := (e2_orG 231 83 11 2 2147483648 2147483668 as_b593 Eb_b593 f_b593 rs_b593 (e2_orG 231 83 11 2 2147483648 2147483668 as_b592 Eb_b592 f_b592 rs_b592 (e2_orG 231 83 11 2 2147483648 2147483668 as_b591 Eb_b591 f_b591 rs_b591 (e2_orG 231 83 11 2 2147483648 2147483668 as_b590 Eb_b590 f_b590 rs_b590 (e2_orG 231 83 11 2 2147483648 2147483668 as_b589 Eb_b589 f_b589 rs_b589 (e2_orG 231 83 11 2 2147483648 2147483668 as_b588 Eb_b588 f_b588 rs_b588 (e2_orG 231 83 11 2 2147483648 2147483668 as_b587 Eb_b587 f_b587 rs_b587 (e2_orG 231 83 11 2 2147483648 2147483668 as_b586 Eb_b586 f_b586 rs_b586 (e2_orG 231 83 11 2 2147483648 2147483668 as_b585 Eb_b585 f_b585 rs_b585 (e2_orG 231 83 11 2 2147483648 2147483668 as_b584 Eb_b584 f_b584 rs_b584 (e2_orG 231 83 11 2 2147483648 2147483668 as_b583 Eb_b583 f_b583 rs_b583 (e2_orG 231 83 11 2 2147483648 2147483668 as_b582 Eb_b582 f_b582 rs_b582 (e2_orG 231 83 11 2 2147483648 2147483668 as_b581 Eb_b581 f_b581 rs_b581 (e2_orG 231 83 11 2 2147483648 2147483668 as_b580 Eb_b580 f_b580 rs_b580 (e2_orG 231 83 11 2 2147483648 2147483668 as_b579 Eb_b579 f_b579 rs_b579 (e2_orG 231 83 11 2 2147483648 2147483668 as_b578 Eb_b578 f_b578 rs_b578 (e2_orG 231 83 11 2 2147483648 2147483668 as_b577 Eb_b577 f_b577 rs_b577 (e2_orG 231 83 11 2 2147483648 2147483668 as_b576 Eb_b576 f_b576 rs_b576 (e2_orG 231 83 11 2 2147483648 2147483668 as_b575 Eb_b575 f_b575 rs_b575 (e2_orG 231 83 11 2 2147483648 2147483668 as_b574 Eb_b574 f_b574 rs_b574 (e2_cal S_b595 I_b595 4000 1)))))))))))))))))))))) ei_230 (fun d hd => (e2_orG_ok (k0 := 231) (a := 83) (j := 11) (n := 2) (lo := 2147483648) (hi := 2147483668) (as0 := as_b593) (Eb := Eb_b593) (f := f_b593) (res := rs_b593) (e2_orG_ok (k0 := 231) (a := 83) (j := 11) (n := 2) (lo := 2147483648) (hi := 2147483668) (as0 := as_b592) (Eb := Eb_b592) (f := f_b592) (res := rs_b592) (e2_orG_ok (k0 := 231) (a := 83) (j := 11) (n := 2) (lo := 2147483648) (hi := 2147483668) (as0 := as_b591) (Eb := Eb_b591) (f := f_b591) (res := rs_b591) (e2_orG_ok (k0 := 231) (a := 83) (j := 11) (n := 2) (lo := 2147483648) (hi := 2147483668) (as0 := as_b590) (Eb := Eb_b590) (f := f_b590) (res := rs_b590) (e2_orG_ok (k0 := 231) (a := 83) (j := 11) (n := 2) (lo := 2147483648) (hi := 2147483668) (as0 := as_b589) (Eb := Eb_b589) (f := f_b589) (res := rs_b589) (e2_orG_ok (k0 := 231) (a := 83) (j := 11) (n := 2) (lo := 2147483648) (hi := 2147483668) (as0 := as_b588) (Eb := Eb_b588) (f := f_b588) (res := rs_b588) (e2_orG_ok (k0 := 231) (a := 83) (j := 11) (n := 2) (lo := 2147483648) (hi := 2147483668) (as0 := as_b587) (Eb := Eb_b587) (f := f_b587) (res := rs_b587) (e2_orG_ok (k0 := 231) (a := 83) (j := 11) (n := 2) (lo := 2147483648) (hi := 2147483668) (as0 := as_b586) (Eb := Eb_b586) (f := f_b586) (res := rs_b586) (e2_orG_ok (k0 := 231) (a := 83) (j := 11) (n := 2) (lo := 2147483648) (hi := 2147483668) (as0 := as_b585) (Eb := Eb_b585) (f := f_b585) (res := rs_b585) (e2_orG_ok (k0 := 231) (a := 83) (j := 11) (n := 2) (lo := 2147483648) (hi := 2147483668) (as0 := as_b584) (Eb := Eb_b584) (f := f_b584) (res := rs_b584) (e2_orG_ok (k0 := 231) (a := 83) (j := 11) (n := 2) (lo := 2147483648) (hi := 2147483668) (as0 := as_b583) (Eb := Eb_b583) (f := f_b583) (res := rs_b583) (e2_orG_ok (k0 := 231) (a := 83) (j := 11) (n := 2) (lo := 2147483648) (hi := 2147483668) (as0 := as_b582) (Eb := Eb_b582) (f := f_b582) (res := rs_b582) (e2_orG_ok (k0 := 231) (a := 83) (j := 11) (n := 2) (lo := 2147483648) (hi := 2147483668) (as0 := as_b581) (Eb := Eb_b581) (f := f_b581) (res := rs_b581) (e2_orG_ok (k0 := 231) (a := 83) (j := 11) (n := 2) (lo := 2147483648) (hi := 2147483668) (as0 := as_b580) (Eb := Eb_b580) (f := f_b580) (res := rs_b580) (e2_orG_ok (k0 := 231) (a := 83) (j := 11) (n := 2) (lo := 2147483648) (hi := 2147483668) (as0 := as_b579) (Eb := Eb_b579) (f := f_b579) (res := rs_b579) (e2_orG_ok (k0 := 231) (a := 83) (j := 11) (n := 2) (lo := 2147483648) (hi := 2147483668) (as0 := as_b578) (Eb := Eb_b578) (f := f_b578) (res := rs_b578) (e2_orG_ok (k0 := 231) (a := 83) (j := 11) (n := 2) (lo := 2147483648) (hi := 2147483668) (as0 := as_b577) (Eb := Eb_b577) (f := f_b577) (res := rs_b577) (e2_orG_ok (k0 := 231) (a := 83) (j := 11) (n := 2) (lo := 2147483648) (hi := 2147483668) (as0 := as_b576) (Eb := Eb_b576) (f := f_b576) (res := rs_b576) (e2_orG_ok (k0 := 231) (a := 83) (j := 11) (n := 2) (lo := 2147483648) (hi := 2147483668) (as0 := as_b575) (Eb := Eb_b575) (f := f_b575) (res := rs_b575) (e2_orG_ok (k0 := 231) (a := 83) (j := 11) (n := 2) (lo := 2147483648) (hi := 2147483668) (as0 := as_b574) (Eb := Eb_b574) (f := f_b574) (res := rs_b574) (e2_cal_ok hen (e2_fa (cs_b554 hen l) (e2_fa (cs_b555 hen l) (e2_fa (cs_b556 hen l) (e2_fa (cs_b557 hen l) (e2_fa (cs_b558 hen l) (e2_fa (cs_b559 hen l) (e2_fa (cs_b560 hen l) (e2_fa (cs_b561 hen l) (e2_fa (cs_b562 hen l) (e2_fa (cs_b563 hen l) (e2_fa (cs_b564 hen l) (e2_fa (cs_b565 hen l) (e2_fa (cs_b566 hen l) (e2_fa (cs_b567 hen l) (e2_fa (cs_b568 hen l) (e2_fa (cs_b569 hen l) (e2_fa (cs_b570 hen l) (e2_fa (cs_b571 hen l) (e2_fa (cs_b572 hen l) (e2_fa (cs_b573 hen l) e2_fz)))))))))))))))))))) (e2_fa ein_216 (e2_fa ein_217 (e2_fa ein_227 e2_fz))) 1 d (by omega)) rfl (by decide +kernel) (fun M hM => (cs_b574 hen l).2 M hM d (by omega)) (e2_okGB_ok cog_b574)) rfl (by decide +kernel) (fun M hM => (cs_b575 hen l).2 M hM d (by omega)) (e2_okGB_ok cog_b575)) rfl (by decide +kernel) (fun M hM => (cs_b576 hen l).2 M hM d (by omega)) (e2_okGB_ok cog_b576)) rfl (by decide +kernel) (fun M hM => (cs_b577 hen l).2 M hM d (by omega)) (e2_okGB_ok cog_b577)) rfl (by decide +kernel) (fun M hM => (cs_b578 hen l).2 M hM d (by omega)) (e2_okGB_ok cog_b578)) rfl (by decide +kernel) (fun M hM => (cs_b579 hen l).2 M hM d (by omega)) (e2_okGB_ok cog_b579)) rfl (by decide +kernel) (fun M hM => (cs_b580 hen l).2 M hM d (by omega)) (e2_okGB_ok cog_b580)) rfl (by decide +kernel) (fun M hM => (cs_b581 hen l).2 M hM d (by omega)) (e2_okGB_ok cog_b581)) rfl (by decide +kernel) (fun M hM => (cs_b582 hen l).2 M hM d (by omega)) (e2_okGB_ok cog_b582)) rfl (by decide +kernel) (fun M hM => (cs_b583 hen l).2 M hM d (by omega)) (e2_okGB_ok cog_b583)) rfl (by decide +kernel) (fun M hM => (cs_b584 hen l).2 M hM d (by omega)) (e2_okGB_ok cog_b584)) rfl (by decide +kernel) (fun M hM => (cs_b585 hen l).2 M hM d (by omega)) (e2_okGB_ok cog_b585)) rfl (by decide +kernel) (fun M hM => (cs_b586 hen l).2 M hM d (by omega)) (e2_okGB_ok cog_b586)) rfl (by decide +kernel) (fun M hM => (cs_b587 hen l).2 M hM d (by omega)) (e2_okGB_ok cog_b587)) rfl (by decide +kernel) (fun M hM => (cs_b588 hen l).2 M hM d (by omega)) (e2_okGB_ok cog_b588)) rfl (by decide +kernel) (fun M hM => (cs_b589 hen l).2 M hM d (by omega)) (e2_okGB_ok cog_b589)) rfl (by decide +kernel) (fun M hM => (cs_b590 hen l).2 M hM d (by omega)) (e2_okGB_ok cog_b590)) rfl (by decide +kernel) (fun M hM => (cs_b591 hen l).2 M hM d (by omega)) (e2_okGB_ok cog_b591)) rfl (by decide +kernel) (fun M hM => (cs_b592 hen l).2 M hM d (by omega)) (e2_okGB_ok cog_b592)) rfl (by decide +kernel) (fun M hM => (cs_b593 hen l).2 M hM d (by omega)) (e2_okGB_ok cog_b593))) (by decide) co_b595 fun M d _ hC hcall p e R s m args below meth c Q D cA A ads r0 ha hl0 => ?_
  have EN_120 := e2_cutS_ok (bp := 120) (cuts := cu_b595_120) (e2_cuts_len hl0 (by decide +kernel)) (e2_cuts_ok hen ha hcall (hC [76, 192, 195]) (X := e2x_230) ex2_230 (e2_cuts_len hl0 (by decide +kernel)) ck_b595_u120)
  have L_27 : e2_gdM M p l e R s m args below meth c Q D cA A ads r0 49 al_b595_27 [] E_b595_27 h_b595_27 := by
    refine e2_indD (u := 2) (j := 2) (lo := 2147483647) (hi := 2147483667) hl0 (by decide) rfl rfl rfl ci_b595_27 cj_b595_27 ?_
    intro r_27 k_27 hk_27 hp_27 hs_27 hn_27
    have hl_27 : r_27.length ≤ 3 := hs_27.len rfl
    have ha_27 := ha.ext hp_27
    have L_28 : e2_gdM M p l e R s m args below meth c Q D cA A ads r_27 55 al_b595_28 [] E_b595_28 h_b595_28 := by
      refine e2_indL (u := 3) (j := 3) (lo := 2147483648) (hi := 2147483657) (b := 3) (dd := 0) hl_27 (by decide) rfl rfl (Or.inr ⟨rfl, rfl⟩) rfl ci_b595_28 cj_b595_28 ?_
      intro r_28 k_28 hk_28 hp_28 hs_28 hn_28
      have hl_28 : r_28.length ≤ 4 := hs_28.len rfl
      have ha_28 := ha_27.ext hp_28
      exact e2_fromM hen ha_28 hcall (e2_cutA_ok (e2_fa (fun al st E h hc => (hn_27 al st E h hc).ext hp_28) (e2_fa (fun al st E h hc => hn_28 al st E h hc) e2_fz))) (hC [76, 192, 195]) (X := e2x_230) ex2_230 55 ck_b595_28
    have EN_28 := e2_entL (u := 3) (j := 3) (lo := 2147483648) (hi := 2147483657) hl_27 rfl rfl rfl ci_b595_28 cj_b595_28 L_28
    exact e2_fromM hen ha_27 hcall (e2_cutA_ok (e2_fa (fun al st E h hc => (EN_120 al st E h hc).ext hp_27) (e2_fa (fun al st E h hc => EN_28 al st E h hc) e2_fz))) (hC [76, 192, 195]) (X := e2x_230) ex2_230 49 ck_b595_27
  have EN_27 := e2_entL (u := 2) (j := 2) (lo := 2147483647) (hi := 2147483667) hl0 rfl rfl rfl ci_b595_27 cj_b595_27 L_27
  have L_26 : e2_gdM M p l e R s m args below meth c Q D cA A ads r0 2 al_b595_26 [] E_b595_26 h_b595_26 := by
    refine e2_indL (u := 2) (j := 2) (lo := 2147483648) (hi := 2147483657) (b := 2) (dd := 0) hl0 (by decide) rfl rfl (Or.inr ⟨rfl, rfl⟩) rfl ci_b595_26 cj_b595_26 ?_
    intro r_26 k_26 hk_26 hp_26 hs_26 hn_26
    have hl_26 : r_26.length ≤ 3 := hs_26.len rfl
    have ha_26 := ha.ext hp_26
    exact e2_fromM hen ha_26 hcall (e2_cutA_ok (e2_fa (fun al st E h hc => hn_26 al st E h hc) (e2_fa (fun al st E h hc => (EN_27 al st E h hc).ext hp_26) e2_fz))) (hC [76, 192, 195]) (X := e2x_230) ex2_230 2 ck_b595_26
  have EN_26 := e2_entL (u := 2) (j := 2) (lo := 2147483648) (hi := 2147483657) hl0 rfl rfl rfl ci_b595_26 cj_b595_26 L_26
  exact e2_from hen ha hcall (e2_cutA_ok (e2_fa (fun al st E h hc => EN_26 al st E h hc) e2_fz)) (hC [76, 192, 195]) (X := e2x_230) ex2_230 0 ck_b595_e
/-! b596 X10_read -/
def as_b596 : List ev_V := [(2, 83, 0), (11, 0, 4294967295)]
def E_b596 : e2_E := [(2147483648, 2147583648, 0, 0), (2147483650, 2147483650, 1, 0)]
def bc285 : ev_C := (50, [(11, 2147483649, 2147483654), (11, 2147483649, 2147483654), (11, 2147483648, 2147483654), (11, 2147483648, 2147483654), (11, 2147483648, 2147483654), (11, 2147483648, 2147483654), (11, 2147483648, 2147483654), (11, 2147483648, 2147483654), (11, 2147483648, 2147483654), (11, 2147483648, 2147483654), (11, 2147483648, 2147483654), (11, 2147483648, 2147483654), (11, 2147483648, 2147483654), (11, 2147483648, 2147483654), (11, 2147483648, 2147483654), (11, 2147483648, 2147483654)])
def bn3806 : e2_Q1 := (bc285, bc3)
def bn3807 : e2_Q2 := (bn130, bn3806)
def bn3808 : e2_Q3 := (bn129, bn3807)
def bn3809 : e2_Q4 := (bn3808, bn3573)
def bn3810 : e2_Q5 := (bn3809, bn156)
def bn3811 : e2_Q6 := (bn3810, bn3624)
def bn3812 : e2_Q7 := (bn3811, bn3594)
def bn3813 : e2_Q8 := (bn3614, bn3812)
noncomputable def f_b596 : ev_H := (bn3813 : e2_Q8)
noncomputable def q_b596_0 : ev_H := (bn3813 : e2_Q8)
noncomputable def rs_b596 : e2_Rs := [((11, 2147483647, 2147483668), q_b596_0)]
noncomputable def s_b596 : e2_Sm := (230, as_b596, E_b596, f_b596, rs_b596)
noncomputable def S_b596 : List e2_Sm := [s_b554, s_b555, s_b556, s_b557, s_b558, s_b559, s_b560, s_b561, s_b562, s_b563, s_b564, s_b565, s_b566, s_b567, s_b568, s_b569, s_b570, s_b571, s_b572, s_b573]
noncomputable def I_b596 : List e2_In := [(216, 1, e2x_216), (217, 1, e2x_217), (227, 2, e2x_227)]
set_option maxRecDepth 1000000 in
theorem co_b596 : e2_okSB E_b596.length as_b596 f_b596 rs_b596 = true := by decide +kernel
def al_b596_26 : List ev_V := [(2, 83, 0), (11, 0, 4294967295), (1, 2, 4294967296), (9, 0, 0), (9, 0, 0)]
def E_b596_26 : e2_E := [(2147483648, 2147583648, 0, 0), (2147483650, 2147483650, 1, 0), (2147483648, 2147483657, 2, 0)]
noncomputable def h_b596_26 : ev_H := (bn3813 : e2_Q8)
def al_b596_27 : List ev_V := [(2, 83, 0), (11, 0, 4294967295), (1, 2, 4294967296), (9, 0, 0), (9, 0, 0)]
def E_b596_27 : e2_E := [(2147483648, 2147583648, 0, 0), (2147483650, 2147483650, 1, 0), (2147483647, 2147483667, 2, 0)]
noncomputable def h_b596_27 : ev_H := (bn3813 : e2_Q8)
def al_b596_28 : List ev_V := [(2, 83, 0), (11, 0, 4294967295), (1, 2, 4294967296), (1, 3, 4294967296), (9, 0, 0)]
def E_b596_28 : e2_E := [(2147483648, 2147583648, 0, 0), (2147483650, 2147483650, 1, 0), (2147483648, 2147483667, 2, 0), (2147483648, 2147483657, 3, 0)]
noncomputable def h_b596_28 : ev_H := (bn3813 : e2_Q8)
def bn3814 : e2_Q7 := (bn3811, bn3633)
def bn3815 : e2_Q8 := (bn3614, bn3814)
noncomputable def h_b596_0 : ev_H := (bn3815 : e2_Q8)
def bn3816 : e2_Q7 := (bn3811, bn3651)
def bn3817 : e2_Q8 := (bn3614, bn3816)
noncomputable def h_b596_1 : ev_H := (bn3817 : e2_Q8)
def bn3818 : e2_Q7 := (bn3811, bn3659)
def bn3819 : e2_Q8 := (bn3614, bn3818)
noncomputable def h_b596_2 : ev_H := (bn3819 : e2_Q8)
def bn3820 : e2_Q7 := (bn3811, bn3667)
def bn3821 : e2_Q8 := (bn3614, bn3820)
noncomputable def h_b596_3 : ev_H := (bn3821 : e2_Q8)
def bn3822 : e2_Q7 := (bn3811, bn3675)
def bn3823 : e2_Q8 := (bn3614, bn3822)
noncomputable def h_b596_4 : ev_H := (bn3823 : e2_Q8)
def bn3824 : e2_Q7 := (bn3811, bn3683)
def bn3825 : e2_Q8 := (bn3614, bn3824)
noncomputable def h_b596_5 : ev_H := (bn3825 : e2_Q8)
def bn3826 : e2_Q7 := (bn3811, bn3691)
def bn3827 : e2_Q8 := (bn3614, bn3826)
noncomputable def h_b596_6 : ev_H := (bn3827 : e2_Q8)
def bn3828 : e2_Q7 := (bn3811, bn3699)
def bn3829 : e2_Q8 := (bn3614, bn3828)
noncomputable def h_b596_7 : ev_H := (bn3829 : e2_Q8)
def bn3830 : e2_Q7 := (bn3811, bn3707)
def bn3831 : e2_Q8 := (bn3614, bn3830)
noncomputable def h_b596_8 : ev_H := (bn3831 : e2_Q8)
def bn3832 : e2_Q7 := (bn3811, bn3715)
def bn3833 : e2_Q8 := (bn3614, bn3832)
noncomputable def h_b596_9 : ev_H := (bn3833 : e2_Q8)
def bn3834 : e2_Q7 := (bn3811, bn3723)
def bn3835 : e2_Q8 := (bn3614, bn3834)
noncomputable def h_b596_10 : ev_H := (bn3835 : e2_Q8)
def bn3836 : e2_Q7 := (bn3811, bn3731)
def bn3837 : e2_Q8 := (bn3614, bn3836)
noncomputable def h_b596_11 : ev_H := (bn3837 : e2_Q8)
def bn3838 : e2_Q7 := (bn3811, bn3739)
def bn3839 : e2_Q8 := (bn3614, bn3838)
noncomputable def h_b596_12 : ev_H := (bn3839 : e2_Q8)
def bn3840 : e2_Q7 := (bn3811, bn3747)
def bn3841 : e2_Q8 := (bn3614, bn3840)
noncomputable def h_b596_13 : ev_H := (bn3841 : e2_Q8)
def bn3842 : e2_Q7 := (bn3811, bn3755)
def bn3843 : e2_Q8 := (bn3614, bn3842)
noncomputable def h_b596_14 : ev_H := (bn3843 : e2_Q8)
def bn3844 : e2_Q7 := (bn3811, bn3763)
def bn3845 : e2_Q8 := (bn3614, bn3844)
noncomputable def h_b596_15 : ev_H := (bn3845 : e2_Q8)
def bn3846 : e2_Q7 := (bn3811, bn3771)
def bn3847 : e2_Q8 := (bn3614, bn3846)
noncomputable def h_b596_16 : ev_H := (bn3847 : e2_Q8)
def bn3848 : e2_Q7 := (bn3811, bn3779)
def bn3849 : e2_Q8 := (bn3614, bn3848)
noncomputable def h_b596_17 : ev_H := (bn3849 : e2_Q8)
def bn3850 : e2_Q7 := (bn3811, bn3787)
def bn3851 : e2_Q8 := (bn3614, bn3850)
noncomputable def h_b596_18 : ev_H := (bn3851 : e2_Q8)
def bn3852 : e2_Q7 := (bn3811, bn3795)
def bn3853 : e2_Q8 := (bn3614, bn3852)
noncomputable def h_b596_19 : ev_H := (bn3853 : e2_Q8)
noncomputable def h_b596_20 : ev_H := (bn3813 : e2_Q8)
def bn3854 : e2_Q7 := (bn3811, bn3803)
def bn3855 : e2_Q8 := (bn3614, bn3854)
noncomputable def h_b596_21 : ev_H := (bn3855 : e2_Q8)
noncomputable def h_b596_22 : ev_H := (bn3855 : e2_Q8)
noncomputable def h_b596_23 : ev_H := (bn3855 : e2_Q8)
noncomputable def h_b596_24 : ev_H := (bn3855 : e2_Q8)
noncomputable def h_b596_25 : ev_H := (bn3855 : e2_Q8)
noncomputable def cu_b596_120 : List e2_Cu := [([(2, 83, 0), (11, 0, 4294967295), (0, 0, 0), (0, 8, 0), (9, 0, 0)], [(2147483648, 2147583648, 0, 0), (2147483650, 2147483650, 1, 0)], h_b596_0),
  ([(2, 83, 0), (11, 0, 4294967295), (0, 1, 0), (11, 2147483648, 2147483656), (11, 2147483647, 2147483649)], [(2147483648, 2147583648, 0, 0), (2147483650, 2147483650, 1, 0)], h_b596_1),
  ([(2, 83, 0), (11, 0, 4294967295), (0, 2, 0), (11, 2147483648, 2147483656), (11, 2147483647, 2147483649)], [(2147483648, 2147583648, 0, 0), (2147483650, 2147483650, 1, 0)], h_b596_2),
  ([(2, 83, 0), (11, 0, 4294967295), (0, 3, 0), (11, 2147483648, 2147483656), (11, 2147483647, 2147483649)], [(2147483648, 2147583648, 0, 0), (2147483650, 2147483650, 1, 0)], h_b596_3),
  ([(2, 83, 0), (11, 0, 4294967295), (0, 4, 0), (11, 2147483648, 2147483656), (11, 2147483647, 2147483649)], [(2147483648, 2147583648, 0, 0), (2147483650, 2147483650, 1, 0)], h_b596_4),
  ([(2, 83, 0), (11, 0, 4294967295), (0, 5, 0), (11, 2147483648, 2147483656), (11, 2147483647, 2147483649)], [(2147483648, 2147583648, 0, 0), (2147483650, 2147483650, 1, 0)], h_b596_5),
  ([(2, 83, 0), (11, 0, 4294967295), (0, 6, 0), (11, 2147483648, 2147483656), (11, 2147483647, 2147483649)], [(2147483648, 2147583648, 0, 0), (2147483650, 2147483650, 1, 0)], h_b596_6),
  ([(2, 83, 0), (11, 0, 4294967295), (0, 7, 0), (11, 2147483648, 2147483656), (11, 2147483647, 2147483649)], [(2147483648, 2147583648, 0, 0), (2147483650, 2147483650, 1, 0)], h_b596_7),
  ([(2, 83, 0), (11, 0, 4294967295), (0, 8, 0), (11, 2147483648, 2147483656), (11, 2147483647, 2147483649)], [(2147483648, 2147583648, 0, 0), (2147483650, 2147483650, 1, 0)], h_b596_8),
  ([(2, 83, 0), (11, 0, 4294967295), (0, 9, 0), (11, 2147483648, 2147483656), (11, 2147483647, 2147483649)], [(2147483648, 2147583648, 0, 0), (2147483650, 2147483650, 1, 0)], h_b596_9),
  ([(2, 83, 0), (11, 0, 4294967295), (0, 10, 0), (11, 2147483648, 2147483656), (11, 2147483647, 2147483649)], [(2147483648, 2147583648, 0, 0), (2147483650, 2147483650, 1, 0)], h_b596_10),
  ([(2, 83, 0), (11, 0, 4294967295), (0, 11, 0), (11, 2147483648, 2147483656), (11, 2147483647, 2147483649)], [(2147483648, 2147583648, 0, 0), (2147483650, 2147483650, 1, 0)], h_b596_11),
  ([(2, 83, 0), (11, 0, 4294967295), (0, 12, 0), (11, 2147483648, 2147483656), (11, 2147483647, 2147483649)], [(2147483648, 2147583648, 0, 0), (2147483650, 2147483650, 1, 0)], h_b596_12),
  ([(2, 83, 0), (11, 0, 4294967295), (0, 13, 0), (11, 2147483648, 2147483656), (11, 2147483647, 2147483649)], [(2147483648, 2147583648, 0, 0), (2147483650, 2147483650, 1, 0)], h_b596_13),
  ([(2, 83, 0), (11, 0, 4294967295), (0, 14, 0), (11, 2147483648, 2147483656), (11, 2147483647, 2147483649)], [(2147483648, 2147583648, 0, 0), (2147483650, 2147483650, 1, 0)], h_b596_14),
  ([(2, 83, 0), (11, 0, 4294967295), (0, 15, 0), (11, 2147483648, 2147483656), (11, 2147483647, 2147483649)], [(2147483648, 2147583648, 0, 0), (2147483650, 2147483650, 1, 0)], h_b596_15),
  ([(2, 83, 0), (11, 0, 4294967295), (0, 16, 0), (11, 2147483648, 2147483656), (11, 2147483647, 2147483649)], [(2147483648, 2147583648, 0, 0), (2147483650, 2147483650, 1, 0)], h_b596_16),
  ([(2, 83, 0), (11, 0, 4294967295), (0, 17, 0), (11, 2147483648, 2147483656), (11, 2147483647, 2147483649)], [(2147483648, 2147583648, 0, 0), (2147483650, 2147483650, 1, 0)], h_b596_17),
  ([(2, 83, 0), (11, 0, 4294967295), (0, 18, 0), (11, 2147483648, 2147483656), (11, 2147483647, 2147483649)], [(2147483648, 2147583648, 0, 0), (2147483650, 2147483650, 1, 0)], h_b596_18),
  ([(2, 83, 0), (11, 0, 4294967295), (0, 19, 0), (11, 2147483648, 2147483656), (11, 2147483647, 2147483649)], [(2147483648, 2147583648, 0, 0), (2147483650, 2147483650, 1, 0)], h_b596_19),
  ([(2, 83, 0), (11, 0, 4294967295), (0, 20, 0), (11, 2147483648, 2147483656), (11, 2147483647, 2147483649)], [(2147483648, 2147583648, 0, 0), (2147483650, 2147483650, 1, 0)], h_b596_20),
  ([(2, 83, 0), (11, 0, 4294967295), (0, 21, 0), (11, 2147483648, 2147483649), (11, 2147483648, 2147483649)], [(2147483648, 2147583648, 0, 0), (2147483650, 2147483650, 1, 0)], h_b596_21),
  ([(2, 83, 0), (11, 0, 4294967295), (0, 22, 0), (11, 2147483648, 2147483649), (11, 2147483648, 2147483649)], [(2147483648, 2147583648, 0, 0), (2147483650, 2147483650, 1, 0)], h_b596_22),
  ([(2, 83, 0), (11, 0, 4294967295), (0, 23, 0), (11, 2147483648, 2147483649), (11, 2147483648, 2147483649)], [(2147483648, 2147583648, 0, 0), (2147483650, 2147483650, 1, 0)], h_b596_23),
  ([(2, 83, 0), (11, 0, 4294967295), (0, 24, 0), (11, 2147483648, 2147483649), (11, 2147483648, 2147483649)], [(2147483648, 2147583648, 0, 0), (2147483650, 2147483650, 1, 0)], h_b596_24),
  ([(2, 83, 0), (11, 0, 4294967295), (0, 25, 0), (11, 2147483648, 2147483649), (11, 2147483648, 2147483649)], [(2147483648, 2147583648, 0, 0), (2147483650, 2147483650, 1, 0)], h_b596_25)]
noncomputable def cl_b596_e : List (Nat × e2_S) := [(2, e2_cutL (al_b596_26.set 2 (11, 2147483648, 2147483657)) 2 (E_b596_26.take 2) h_b596_26)]
set_option maxRecDepth 1000000 in
theorem ck_b596_e : e2_run (e2_orG 231 83 11 2 2147483648 2147483668 as_b593 Eb_b593 f_b593 rs_b593 (e2_orG 231 83 11 2 2147483648 2147483668 as_b592 Eb_b592 f_b592 rs_b592 (e2_orG 231 83 11 2 2147483648 2147483668 as_b591 Eb_b591 f_b591 rs_b591 (e2_orG 231 83 11 2 2147483648 2147483668 as_b590 Eb_b590 f_b590 rs_b590 (e2_orG 231 83 11 2 2147483648 2147483668 as_b589 Eb_b589 f_b589 rs_b589 (e2_orG 231 83 11 2 2147483648 2147483668 as_b588 Eb_b588 f_b588 rs_b588 (e2_orG 231 83 11 2 2147483648 2147483668 as_b587 Eb_b587 f_b587 rs_b587 (e2_orG 231 83 11 2 2147483648 2147483668 as_b586 Eb_b586 f_b586 rs_b586 (e2_orG 231 83 11 2 2147483648 2147483668 as_b585 Eb_b585 f_b585 rs_b585 (e2_orG 231 83 11 2 2147483648 2147483668 as_b584 Eb_b584 f_b584 rs_b584 (e2_orG 231 83 11 2 2147483648 2147483668 as_b583 Eb_b583 f_b583 rs_b583 (e2_orG 231 83 11 2 2147483648 2147483668 as_b582 Eb_b582 f_b582 rs_b582 (e2_orG 231 83 11 2 2147483648 2147483668 as_b581 Eb_b581 f_b581 rs_b581 (e2_orG 231 83 11 2 2147483648 2147483668 as_b580 Eb_b580 f_b580 rs_b580 (e2_orG 231 83 11 2 2147483648 2147483668 as_b579 Eb_b579 f_b579 rs_b579 (e2_orG 231 83 11 2 2147483648 2147483668 as_b578 Eb_b578 f_b578 rs_b578 (e2_orG 231 83 11 2 2147483648 2147483668 as_b577 Eb_b577 f_b577 rs_b577 (e2_orG 231 83 11 2 2147483648 2147483668 as_b576 Eb_b576 f_b576 rs_b576 (e2_orG 231 83 11 2 2147483648 2147483668 as_b575 Eb_b575 f_b575 rs_b575 (e2_orG 231 83 11 2 2147483648 2147483668 as_b574 Eb_b574 f_b574 rs_b574 (e2_cal S_b596 I_b596 4000 1))))))))))))))))))))) (e2_fin rs_b596) e2x_230 (e2_bpL cl_b596_e) (e2_cutA cl_b596_e) 4000 (e2_seek e2x_230 0) (e2_al 5 as_b596) [] E_b596 f_b596 = true := by decide +kernel
noncomputable def cl_b596_26 : List (Nat × e2_S) := [(2, e2_cutL (al_b596_26.set 2 (13, 10, 2147483657)) 2 (E_b596_26.take 2) h_b596_26),
  (49, e2_cutL (al_b596_27.set 2 (11, 2147483647, 2147483667)) 2 (E_b596_27.take 2) h_b596_27)]
set_option maxRecDepth 1000000 in
theorem ck_b596_26 : e2_runM (e2_orG 231 83 11 2 2147483648 2147483668 as_b593 Eb_b593 f_b593 rs_b593 (e2_orG 231 83 11 2 2147483648 2147483668 as_b592 Eb_b592 f_b592 rs_b592 (e2_orG 231 83 11 2 2147483648 2147483668 as_b591 Eb_b591 f_b591 rs_b591 (e2_orG 231 83 11 2 2147483648 2147483668 as_b590 Eb_b590 f_b590 rs_b590 (e2_orG 231 83 11 2 2147483648 2147483668 as_b589 Eb_b589 f_b589 rs_b589 (e2_orG 231 83 11 2 2147483648 2147483668 as_b588 Eb_b588 f_b588 rs_b588 (e2_orG 231 83 11 2 2147483648 2147483668 as_b587 Eb_b587 f_b587 rs_b587 (e2_orG 231 83 11 2 2147483648 2147483668 as_b586 Eb_b586 f_b586 rs_b586 (e2_orG 231 83 11 2 2147483648 2147483668 as_b585 Eb_b585 f_b585 rs_b585 (e2_orG 231 83 11 2 2147483648 2147483668 as_b584 Eb_b584 f_b584 rs_b584 (e2_orG 231 83 11 2 2147483648 2147483668 as_b583 Eb_b583 f_b583 rs_b583 (e2_orG 231 83 11 2 2147483648 2147483668 as_b582 Eb_b582 f_b582 rs_b582 (e2_orG 231 83 11 2 2147483648 2147483668 as_b581 Eb_b581 f_b581 rs_b581 (e2_orG 231 83 11 2 2147483648 2147483668 as_b580 Eb_b580 f_b580 rs_b580 (e2_orG 231 83 11 2 2147483648 2147483668 as_b579 Eb_b579 f_b579 rs_b579 (e2_orG 231 83 11 2 2147483648 2147483668 as_b578 Eb_b578 f_b578 rs_b578 (e2_orG 231 83 11 2 2147483648 2147483668 as_b577 Eb_b577 f_b577 rs_b577 (e2_orG 231 83 11 2 2147483648 2147483668 as_b576 Eb_b576 f_b576 rs_b576 (e2_orG 231 83 11 2 2147483648 2147483668 as_b575 Eb_b575 f_b575 rs_b575 (e2_orG 231 83 11 2 2147483648 2147483668 as_b574 Eb_b574 f_b574 rs_b574 (e2_cal S_b596 I_b596 4000 1))))))))))))))))))))) (e2_fin rs_b596) e2x_230 (e2_bpL cl_b596_26) (e2_cutA cl_b596_26) 4000 (e2_seek e2x_230 2) al_b596_26 [] E_b596_26 h_b596_26 = true := by decide +kernel
set_option maxRecDepth 1000000 in
theorem ci_b596_26 : e2_idl 2 (al_b596_26.set 2 (9, 0, 0)) = true := by decide +kernel
set_option maxRecDepth 1000000 in
theorem cj_b596_26 : e2_idh 2 8 h_b596_26 = true := by decide +kernel
noncomputable def cl_b596_27 : List (Nat × e2_S) := [(120, e2_cutS cu_b596_120),
  (55, e2_cutL (al_b596_28.set 3 (11, 2147483648, 2147483657)) 3 (E_b596_28.take 3) h_b596_28)]
set_option maxRecDepth 1000000 in
theorem ck_b596_27 : e2_runM (e2_orG 231 83 11 2 2147483648 2147483668 as_b593 Eb_b593 f_b593 rs_b593 (e2_orG 231 83 11 2 2147483648 2147483668 as_b592 Eb_b592 f_b592 rs_b592 (e2_orG 231 83 11 2 2147483648 2147483668 as_b591 Eb_b591 f_b591 rs_b591 (e2_orG 231 83 11 2 2147483648 2147483668 as_b590 Eb_b590 f_b590 rs_b590 (e2_orG 231 83 11 2 2147483648 2147483668 as_b589 Eb_b589 f_b589 rs_b589 (e2_orG 231 83 11 2 2147483648 2147483668 as_b588 Eb_b588 f_b588 rs_b588 (e2_orG 231 83 11 2 2147483648 2147483668 as_b587 Eb_b587 f_b587 rs_b587 (e2_orG 231 83 11 2 2147483648 2147483668 as_b586 Eb_b586 f_b586 rs_b586 (e2_orG 231 83 11 2 2147483648 2147483668 as_b585 Eb_b585 f_b585 rs_b585 (e2_orG 231 83 11 2 2147483648 2147483668 as_b584 Eb_b584 f_b584 rs_b584 (e2_orG 231 83 11 2 2147483648 2147483668 as_b583 Eb_b583 f_b583 rs_b583 (e2_orG 231 83 11 2 2147483648 2147483668 as_b582 Eb_b582 f_b582 rs_b582 (e2_orG 231 83 11 2 2147483648 2147483668 as_b581 Eb_b581 f_b581 rs_b581 (e2_orG 231 83 11 2 2147483648 2147483668 as_b580 Eb_b580 f_b580 rs_b580 (e2_orG 231 83 11 2 2147483648 2147483668 as_b579 Eb_b579 f_b579 rs_b579 (e2_orG 231 83 11 2 2147483648 2147483668 as_b578 Eb_b578 f_b578 rs_b578 (e2_orG 231 83 11 2 2147483648 2147483668 as_b577 Eb_b577 f_b577 rs_b577 (e2_orG 231 83 11 2 2147483648 2147483668 as_b576 Eb_b576 f_b576 rs_b576 (e2_orG 231 83 11 2 2147483648 2147483668 as_b575 Eb_b575 f_b575 rs_b575 (e2_orG 231 83 11 2 2147483648 2147483668 as_b574 Eb_b574 f_b574 rs_b574 (e2_cal S_b596 I_b596 4000 1))))))))))))))))))))) (e2_fin rs_b596) e2x_230 (e2_bpL cl_b596_27) (e2_cutA cl_b596_27) 4000 (e2_seek e2x_230 49) al_b596_27 [] E_b596_27 h_b596_27 = true := by decide +kernel
set_option maxRecDepth 1000000 in
theorem ci_b596_27 : e2_idl 2 (al_b596_27.set 2 (9, 0, 0)) = true := by decide +kernel
set_option maxRecDepth 1000000 in
theorem cj_b596_27 : e2_idh 2 8 h_b596_27 = true := by decide +kernel
noncomputable def cl_b596_28 : List (Nat × e2_S) := [(49, e2_cutL (al_b596_27.set 2 (12, 10, 2147483647)) 2 (E_b596_27.take 2) h_b596_27),
  (55, e2_cutL (al_b596_28.set 3 (13, 11, 2147483657)) 3 (E_b596_28.take 3) h_b596_28)]
set_option maxRecDepth 1000000 in
theorem ck_b596_28 : e2_runM (e2_orG 231 83 11 2 2147483648 2147483668 as_b593 Eb_b593 f_b593 rs_b593 (e2_orG 231 83 11 2 2147483648 2147483668 as_b592 Eb_b592 f_b592 rs_b592 (e2_orG 231 83 11 2 2147483648 2147483668 as_b591 Eb_b591 f_b591 rs_b591 (e2_orG 231 83 11 2 2147483648 2147483668 as_b590 Eb_b590 f_b590 rs_b590 (e2_orG 231 83 11 2 2147483648 2147483668 as_b589 Eb_b589 f_b589 rs_b589 (e2_orG 231 83 11 2 2147483648 2147483668 as_b588 Eb_b588 f_b588 rs_b588 (e2_orG 231 83 11 2 2147483648 2147483668 as_b587 Eb_b587 f_b587 rs_b587 (e2_orG 231 83 11 2 2147483648 2147483668 as_b586 Eb_b586 f_b586 rs_b586 (e2_orG 231 83 11 2 2147483648 2147483668 as_b585 Eb_b585 f_b585 rs_b585 (e2_orG 231 83 11 2 2147483648 2147483668 as_b584 Eb_b584 f_b584 rs_b584 (e2_orG 231 83 11 2 2147483648 2147483668 as_b583 Eb_b583 f_b583 rs_b583 (e2_orG 231 83 11 2 2147483648 2147483668 as_b582 Eb_b582 f_b582 rs_b582 (e2_orG 231 83 11 2 2147483648 2147483668 as_b581 Eb_b581 f_b581 rs_b581 (e2_orG 231 83 11 2 2147483648 2147483668 as_b580 Eb_b580 f_b580 rs_b580 (e2_orG 231 83 11 2 2147483648 2147483668 as_b579 Eb_b579 f_b579 rs_b579 (e2_orG 231 83 11 2 2147483648 2147483668 as_b578 Eb_b578 f_b578 rs_b578 (e2_orG 231 83 11 2 2147483648 2147483668 as_b577 Eb_b577 f_b577 rs_b577 (e2_orG 231 83 11 2 2147483648 2147483668 as_b576 Eb_b576 f_b576 rs_b576 (e2_orG 231 83 11 2 2147483648 2147483668 as_b575 Eb_b575 f_b575 rs_b575 (e2_orG 231 83 11 2 2147483648 2147483668 as_b574 Eb_b574 f_b574 rs_b574 (e2_cal S_b596 I_b596 4000 1))))))))))))))))))))) (e2_fin rs_b596) e2x_230 (e2_bpL cl_b596_28) (e2_cutA cl_b596_28) 4000 (e2_seek e2x_230 55) al_b596_28 [] E_b596_28 h_b596_28 = true := by decide +kernel
set_option maxRecDepth 1000000 in
theorem ci_b596_28 : e2_idl 3 (al_b596_28.set 3 (9, 0, 0)) = true := by decide +kernel
set_option maxRecDepth 1000000 in
theorem cj_b596_28 : e2_idh 3 8 h_b596_28 = true := by decide +kernel
set_option maxRecDepth 1000000 in
theorem ck_b596_u120 : e2_cutsB (e2_orG 231 83 11 2 2147483648 2147483668 as_b593 Eb_b593 f_b593 rs_b593 (e2_orG 231 83 11 2 2147483648 2147483668 as_b592 Eb_b592 f_b592 rs_b592 (e2_orG 231 83 11 2 2147483648 2147483668 as_b591 Eb_b591 f_b591 rs_b591 (e2_orG 231 83 11 2 2147483648 2147483668 as_b590 Eb_b590 f_b590 rs_b590 (e2_orG 231 83 11 2 2147483648 2147483668 as_b589 Eb_b589 f_b589 rs_b589 (e2_orG 231 83 11 2 2147483648 2147483668 as_b588 Eb_b588 f_b588 rs_b588 (e2_orG 231 83 11 2 2147483648 2147483668 as_b587 Eb_b587 f_b587 rs_b587 (e2_orG 231 83 11 2 2147483648 2147483668 as_b586 Eb_b586 f_b586 rs_b586 (e2_orG 231 83 11 2 2147483648 2147483668 as_b585 Eb_b585 f_b585 rs_b585 (e2_orG 231 83 11 2 2147483648 2147483668 as_b584 Eb_b584 f_b584 rs_b584 (e2_orG 231 83 11 2 2147483648 2147483668 as_b583 Eb_b583 f_b583 rs_b583 (e2_orG 231 83 11 2 2147483648 2147483668 as_b582 Eb_b582 f_b582 rs_b582 (e2_orG 231 83 11 2 2147483648 2147483668 as_b581 Eb_b581 f_b581 rs_b581 (e2_orG 231 83 11 2 2147483648 2147483668 as_b580 Eb_b580 f_b580 rs_b580 (e2_orG 231 83 11 2 2147483648 2147483668 as_b579 Eb_b579 f_b579 rs_b579 (e2_orG 231 83 11 2 2147483648 2147483668 as_b578 Eb_b578 f_b578 rs_b578 (e2_orG 231 83 11 2 2147483648 2147483668 as_b577 Eb_b577 f_b577 rs_b577 (e2_orG 231 83 11 2 2147483648 2147483668 as_b576 Eb_b576 f_b576 rs_b576 (e2_orG 231 83 11 2 2147483648 2147483668 as_b575 Eb_b575 f_b575 rs_b575 (e2_orG 231 83 11 2 2147483648 2147483668 as_b574 Eb_b574 f_b574 rs_b574 (e2_cal S_b596 I_b596 4000 1))))))))))))))))))))) (e2_fin rs_b596) e2x_230 120 4000 cu_b596_120 = true := by decide +kernel
set_option maxRecDepth 1000000 in
theorem cs_b596 (hen : en_ok) (l : Launch) : e2_smOk l 5 s_b596 := by
  refine e2_conC (H := 4) (C := evd_230) (call := (e2_orG 231 83 11 2 2147483648 2147483668 as_b593 Eb_b593 f_b593 rs_b593 (e2_orG 231 83 11 2 2147483648 2147483668 as_b592 Eb_b592 f_b592 rs_b592 (e2_orG 231 83 11 2 2147483648 2147483668 as_b591 Eb_b591 f_b591 rs_b591 (e2_orG 231 83 11 2 2147483648 2147483668 as_b590 Eb_b590 f_b590 rs_b590 (e2_orG 231 83 11 2 2147483648 2147483668 as_b589 Eb_b589 f_b589 rs_b589 (e2_orG 231 83 11 2 2147483648 2147483668 as_b588 Eb_b588 f_b588 rs_b588 (e2_orG 231 83 11 2 2147483648 2147483668 as_b587 Eb_b587 f_b587 rs_b587 (e2_orG 231 83 11 2 2147483648 2147483668 as_b586 Eb_b586 f_b586 rs_b586 (e2_orG 231 83 11 2 2147483648 2147483668 as_b585 Eb_b585 f_b585 rs_b585 (e2_orG 231 83 11 2 2147483648 2147483668 as_b584 Eb_b584 f_b584 rs_b584 (e2_orG 231 83 11 2 2147483648 2147483668 as_b583 Eb_b583 f_b583 rs_b583 (e2_orG 231 83 11 2 2147483648 2147483668 as_b582 Eb_b582 f_b582 rs_b582 (e2_orG 231 83 11 2 2147483648 2147483668 as_b581 Eb_b581 f_b581 rs_b581 (e2_orG 231 83 11 2 2147483648 2147483668 as_b580 Eb_b580 f_b580 rs_b580 (e2_orG 231 83 11 2 2147483648 2147483668 as_b579 Eb_b579 f_b579 rs_b579 (e2_orG 231 83 11 2 2147483648 2147483668 as_b578 Eb_b578 f_b578 rs_b578 (e2_orG 231 83 11 2 2147483648 2147483668 as_b577 Eb_b577 f_b577 rs_b577 (e2_orG 231 83 11 2 2147483648 2147483668 as_b576 Eb_b576 f_b576 rs_b576 (e2_orG 231 83 11 2 2147483648 2147483668 as_b575 Eb_b575 f_b575 rs_b575 (e2_orG 231 83 11 2 2147483648 2147483668 as_b574 Eb_b574 f_b574 rs_b574 (e2_cal S_b596 I_b596 4000 1)))))))))))))))))))))) ei_230 (fun d hd => (e2_orG_ok (k0 := 231) (a := 83) (j := 11) (n := 2) (lo := 2147483648) (hi := 2147483668) (as0 := as_b593) (Eb := Eb_b593) (f := f_b593) (res := rs_b593) (e2_orG_ok (k0 := 231) (a := 83) (j := 11) (n := 2) (lo := 2147483648) (hi := 2147483668) (as0 := as_b592) (Eb := Eb_b592) (f := f_b592) (res := rs_b592) (e2_orG_ok (k0 := 231) (a := 83) (j := 11) (n := 2) (lo := 2147483648) (hi := 2147483668) (as0 := as_b591) (Eb := Eb_b591) (f := f_b591) (res := rs_b591) (e2_orG_ok (k0 := 231) (a := 83) (j := 11) (n := 2) (lo := 2147483648) (hi := 2147483668) (as0 := as_b590) (Eb := Eb_b590) (f := f_b590) (res := rs_b590) (e2_orG_ok (k0 := 231) (a := 83) (j := 11) (n := 2) (lo := 2147483648) (hi := 2147483668) (as0 := as_b589) (Eb := Eb_b589) (f := f_b589) (res := rs_b589) (e2_orG_ok (k0 := 231) (a := 83) (j := 11) (n := 2) (lo := 2147483648) (hi := 2147483668) (as0 := as_b588) (Eb := Eb_b588) (f := f_b588) (res := rs_b588) (e2_orG_ok (k0 := 231) (a := 83) (j := 11) (n := 2) (lo := 2147483648) (hi := 2147483668) (as0 := as_b587) (Eb := Eb_b587) (f := f_b587) (res := rs_b587) (e2_orG_ok (k0 := 231) (a := 83) (j := 11) (n := 2) (lo := 2147483648) (hi := 2147483668) (as0 := as_b586) (Eb := Eb_b586) (f := f_b586) (res := rs_b586) (e2_orG_ok (k0 := 231) (a := 83) (j := 11) (n := 2) (lo := 2147483648) (hi := 2147483668) (as0 := as_b585) (Eb := Eb_b585) (f := f_b585) (res := rs_b585) (e2_orG_ok (k0 := 231) (a := 83) (j := 11) (n := 2) (lo := 2147483648) (hi := 2147483668) (as0 := as_b584) (Eb := Eb_b584) (f := f_b584) (res := rs_b584) (e2_orG_ok (k0 := 231) (a := 83) (j := 11) (n := 2) (lo := 2147483648) (hi := 2147483668) (as0 := as_b583) (Eb := Eb_b583) (f := f_b583) (res := rs_b583) (e2_orG_ok (k0 := 231) (a := 83) (j := 11) (n := 2) (lo := 2147483648) (hi := 2147483668) (as0 := as_b582) (Eb := Eb_b582) (f := f_b582) (res := rs_b582) (e2_orG_ok (k0 := 231) (a := 83) (j := 11) (n := 2) (lo := 2147483648) (hi := 2147483668) (as0 := as_b581) (Eb := Eb_b581) (f := f_b581) (res := rs_b581) (e2_orG_ok (k0 := 231) (a := 83) (j := 11) (n := 2) (lo := 2147483648) (hi := 2147483668) (as0 := as_b580) (Eb := Eb_b580) (f := f_b580) (res := rs_b580) (e2_orG_ok (k0 := 231) (a := 83) (j := 11) (n := 2) (lo := 2147483648) (hi := 2147483668) (as0 := as_b579) (Eb := Eb_b579) (f := f_b579) (res := rs_b579) (e2_orG_ok (k0 := 231) (a := 83) (j := 11) (n := 2) (lo := 2147483648) (hi := 2147483668) (as0 := as_b578) (Eb := Eb_b578) (f := f_b578) (res := rs_b578) (e2_orG_ok (k0 := 231) (a := 83) (j := 11) (n := 2) (lo := 2147483648) (hi := 2147483668) (as0 := as_b577) (Eb := Eb_b577) (f := f_b577) (res := rs_b577) (e2_orG_ok (k0 := 231) (a := 83) (j := 11) (n := 2) (lo := 2147483648) (hi := 2147483668) (as0 := as_b576) (Eb := Eb_b576) (f := f_b576) (res := rs_b576) (e2_orG_ok (k0 := 231) (a := 83) (j := 11) (n := 2) (lo := 2147483648) (hi := 2147483668) (as0 := as_b575) (Eb := Eb_b575) (f := f_b575) (res := rs_b575) (e2_orG_ok (k0 := 231) (a := 83) (j := 11) (n := 2) (lo := 2147483648) (hi := 2147483668) (as0 := as_b574) (Eb := Eb_b574) (f := f_b574) (res := rs_b574) (e2_cal_ok hen (e2_fa (cs_b554 hen l) (e2_fa (cs_b555 hen l) (e2_fa (cs_b556 hen l) (e2_fa (cs_b557 hen l) (e2_fa (cs_b558 hen l) (e2_fa (cs_b559 hen l) (e2_fa (cs_b560 hen l) (e2_fa (cs_b561 hen l) (e2_fa (cs_b562 hen l) (e2_fa (cs_b563 hen l) (e2_fa (cs_b564 hen l) (e2_fa (cs_b565 hen l) (e2_fa (cs_b566 hen l) (e2_fa (cs_b567 hen l) (e2_fa (cs_b568 hen l) (e2_fa (cs_b569 hen l) (e2_fa (cs_b570 hen l) (e2_fa (cs_b571 hen l) (e2_fa (cs_b572 hen l) (e2_fa (cs_b573 hen l) e2_fz)))))))))))))))))))) (e2_fa ein_216 (e2_fa ein_217 (e2_fa ein_227 e2_fz))) 1 d (by omega)) rfl (by decide +kernel) (fun M hM => (cs_b574 hen l).2 M hM d (by omega)) (e2_okGB_ok cog_b574)) rfl (by decide +kernel) (fun M hM => (cs_b575 hen l).2 M hM d (by omega)) (e2_okGB_ok cog_b575)) rfl (by decide +kernel) (fun M hM => (cs_b576 hen l).2 M hM d (by omega)) (e2_okGB_ok cog_b576)) rfl (by decide +kernel) (fun M hM => (cs_b577 hen l).2 M hM d (by omega)) (e2_okGB_ok cog_b577)) rfl (by decide +kernel) (fun M hM => (cs_b578 hen l).2 M hM d (by omega)) (e2_okGB_ok cog_b578)) rfl (by decide +kernel) (fun M hM => (cs_b579 hen l).2 M hM d (by omega)) (e2_okGB_ok cog_b579)) rfl (by decide +kernel) (fun M hM => (cs_b580 hen l).2 M hM d (by omega)) (e2_okGB_ok cog_b580)) rfl (by decide +kernel) (fun M hM => (cs_b581 hen l).2 M hM d (by omega)) (e2_okGB_ok cog_b581)) rfl (by decide +kernel) (fun M hM => (cs_b582 hen l).2 M hM d (by omega)) (e2_okGB_ok cog_b582)) rfl (by decide +kernel) (fun M hM => (cs_b583 hen l).2 M hM d (by omega)) (e2_okGB_ok cog_b583)) rfl (by decide +kernel) (fun M hM => (cs_b584 hen l).2 M hM d (by omega)) (e2_okGB_ok cog_b584)) rfl (by decide +kernel) (fun M hM => (cs_b585 hen l).2 M hM d (by omega)) (e2_okGB_ok cog_b585)) rfl (by decide +kernel) (fun M hM => (cs_b586 hen l).2 M hM d (by omega)) (e2_okGB_ok cog_b586)) rfl (by decide +kernel) (fun M hM => (cs_b587 hen l).2 M hM d (by omega)) (e2_okGB_ok cog_b587)) rfl (by decide +kernel) (fun M hM => (cs_b588 hen l).2 M hM d (by omega)) (e2_okGB_ok cog_b588)) rfl (by decide +kernel) (fun M hM => (cs_b589 hen l).2 M hM d (by omega)) (e2_okGB_ok cog_b589)) rfl (by decide +kernel) (fun M hM => (cs_b590 hen l).2 M hM d (by omega)) (e2_okGB_ok cog_b590)) rfl (by decide +kernel) (fun M hM => (cs_b591 hen l).2 M hM d (by omega)) (e2_okGB_ok cog_b591)) rfl (by decide +kernel) (fun M hM => (cs_b592 hen l).2 M hM d (by omega)) (e2_okGB_ok cog_b592)) rfl (by decide +kernel) (fun M hM => (cs_b593 hen l).2 M hM d (by omega)) (e2_okGB_ok cog_b593))) (by decide) co_b596 fun M d _ hC hcall p e R s m args below meth c Q D cA A ads r0 ha hl0 => ?_
  have EN_120 := e2_cutS_ok (bp := 120) (cuts := cu_b596_120) (e2_cuts_len hl0 (by decide +kernel)) (e2_cuts_ok hen ha hcall (hC [76, 192, 195]) (X := e2x_230) ex2_230 (e2_cuts_len hl0 (by decide +kernel)) ck_b596_u120)
  have L_27 : e2_gdM M p l e R s m args below meth c Q D cA A ads r0 49 al_b596_27 [] E_b596_27 h_b596_27 := by
    refine e2_indD (u := 2) (j := 2) (lo := 2147483647) (hi := 2147483667) hl0 (by decide) rfl rfl rfl ci_b596_27 cj_b596_27 ?_
    intro r_27 k_27 hk_27 hp_27 hs_27 hn_27
    have hl_27 : r_27.length ≤ 3 := hs_27.len rfl
    have ha_27 := ha.ext hp_27
    have L_28 : e2_gdM M p l e R s m args below meth c Q D cA A ads r_27 55 al_b596_28 [] E_b596_28 h_b596_28 := by
      refine e2_indL (u := 3) (j := 3) (lo := 2147483648) (hi := 2147483657) (b := 3) (dd := 0) hl_27 (by decide) rfl rfl (Or.inr ⟨rfl, rfl⟩) rfl ci_b596_28 cj_b596_28 ?_
      intro r_28 k_28 hk_28 hp_28 hs_28 hn_28
      have hl_28 : r_28.length ≤ 4 := hs_28.len rfl
      have ha_28 := ha_27.ext hp_28
      exact e2_fromM hen ha_28 hcall (e2_cutA_ok (e2_fa (fun al st E h hc => (hn_27 al st E h hc).ext hp_28) (e2_fa (fun al st E h hc => hn_28 al st E h hc) e2_fz))) (hC [76, 192, 195]) (X := e2x_230) ex2_230 55 ck_b596_28
    have EN_28 := e2_entL (u := 3) (j := 3) (lo := 2147483648) (hi := 2147483657) hl_27 rfl rfl rfl ci_b596_28 cj_b596_28 L_28
    exact e2_fromM hen ha_27 hcall (e2_cutA_ok (e2_fa (fun al st E h hc => (EN_120 al st E h hc).ext hp_27) (e2_fa (fun al st E h hc => EN_28 al st E h hc) e2_fz))) (hC [76, 192, 195]) (X := e2x_230) ex2_230 49 ck_b596_27
  have EN_27 := e2_entL (u := 2) (j := 2) (lo := 2147483647) (hi := 2147483667) hl0 rfl rfl rfl ci_b596_27 cj_b596_27 L_27
  have L_26 : e2_gdM M p l e R s m args below meth c Q D cA A ads r0 2 al_b596_26 [] E_b596_26 h_b596_26 := by
    refine e2_indL (u := 2) (j := 2) (lo := 2147483648) (hi := 2147483657) (b := 2) (dd := 0) hl0 (by decide) rfl rfl (Or.inr ⟨rfl, rfl⟩) rfl ci_b596_26 cj_b596_26 ?_
    intro r_26 k_26 hk_26 hp_26 hs_26 hn_26
    have hl_26 : r_26.length ≤ 3 := hs_26.len rfl
    have ha_26 := ha.ext hp_26
    exact e2_fromM hen ha_26 hcall (e2_cutA_ok (e2_fa (fun al st E h hc => hn_26 al st E h hc) (e2_fa (fun al st E h hc => (EN_27 al st E h hc).ext hp_26) e2_fz))) (hC [76, 192, 195]) (X := e2x_230) ex2_230 2 ck_b596_26
  have EN_26 := e2_entL (u := 2) (j := 2) (lo := 2147483648) (hi := 2147483657) hl0 rfl rfl rfl ci_b596_26 cj_b596_26 L_26
  exact e2_from hen ha hcall (e2_cutA_ok (e2_fa (fun al st E h hc => EN_26 al st E h hc) e2_fz)) (hC [76, 192, 195]) (X := e2x_230) ex2_230 0 ck_b596_e
/-! b597 X10_read -/
def as_b597 : List ev_V := [(2, 83, 0), (11, 0, 4294967295)]
def E_b597 : e2_E := [(2147483648, 2147583648, 0, 0), (2147483651, 2147483651, 1, 0)]
def bc286 : ev_C := (50, [(11, 2147483649, 2147483654), (11, 2147483649, 2147483654), (11, 2147483649, 2147483654), (11, 2147483648, 2147483654), (11, 2147483648, 2147483654), (11, 2147483648, 2147483654), (11, 2147483648, 2147483654), (11, 2147483648, 2147483654), (11, 2147483648, 2147483654), (11, 2147483648, 2147483654), (11, 2147483648, 2147483654), (11, 2147483648, 2147483654), (11, 2147483648, 2147483654), (11, 2147483648, 2147483654), (11, 2147483648, 2147483654), (11, 2147483648, 2147483654)])
def bn3856 : e2_Q1 := (bc286, bc3)
def bn3857 : e2_Q2 := (bn130, bn3856)
def bn3858 : e2_Q3 := (bn129, bn3857)
def bn3859 : e2_Q4 := (bn3858, bn3573)
def bn3860 : e2_Q5 := (bn3859, bn156)
def bn3861 : e2_Q6 := (bn3860, bn3624)
def bn3862 : e2_Q7 := (bn3861, bn3594)
def bn3863 : e2_Q8 := (bn3614, bn3862)
noncomputable def f_b597 : ev_H := (bn3863 : e2_Q8)
noncomputable def q_b597_0 : ev_H := (bn3863 : e2_Q8)
noncomputable def rs_b597 : e2_Rs := [((11, 2147483647, 2147483668), q_b597_0)]
noncomputable def s_b597 : e2_Sm := (230, as_b597, E_b597, f_b597, rs_b597)
noncomputable def S_b597 : List e2_Sm := [s_b554, s_b555, s_b556, s_b557, s_b558, s_b559, s_b560, s_b561, s_b562, s_b563, s_b564, s_b565, s_b566, s_b567, s_b568, s_b569, s_b570, s_b571, s_b572, s_b573]
noncomputable def I_b597 : List e2_In := [(216, 1, e2x_216), (217, 1, e2x_217), (227, 2, e2x_227)]
set_option maxRecDepth 1000000 in
theorem co_b597 : e2_okSB E_b597.length as_b597 f_b597 rs_b597 = true := by decide +kernel
def al_b597_26 : List ev_V := [(2, 83, 0), (11, 0, 4294967295), (1, 2, 4294967296), (9, 0, 0), (9, 0, 0)]
def E_b597_26 : e2_E := [(2147483648, 2147583648, 0, 0), (2147483651, 2147483651, 1, 0), (2147483648, 2147483657, 2, 0)]
noncomputable def h_b597_26 : ev_H := (bn3863 : e2_Q8)
def al_b597_27 : List ev_V := [(2, 83, 0), (11, 0, 4294967295), (1, 2, 4294967296), (9, 0, 0), (9, 0, 0)]
def E_b597_27 : e2_E := [(2147483648, 2147583648, 0, 0), (2147483651, 2147483651, 1, 0), (2147483647, 2147483667, 2, 0)]
noncomputable def h_b597_27 : ev_H := (bn3863 : e2_Q8)
def al_b597_28 : List ev_V := [(2, 83, 0), (11, 0, 4294967295), (1, 2, 4294967296), (1, 3, 4294967296), (9, 0, 0)]
def E_b597_28 : e2_E := [(2147483648, 2147583648, 0, 0), (2147483651, 2147483651, 1, 0), (2147483648, 2147483667, 2, 0), (2147483648, 2147483657, 3, 0)]
noncomputable def h_b597_28 : ev_H := (bn3863 : e2_Q8)
def bn3864 : e2_Q7 := (bn3861, bn3633)
def bn3865 : e2_Q8 := (bn3614, bn3864)
noncomputable def h_b597_0 : ev_H := (bn3865 : e2_Q8)
def bn3866 : e2_Q7 := (bn3861, bn3651)
def bn3867 : e2_Q8 := (bn3614, bn3866)
noncomputable def h_b597_1 : ev_H := (bn3867 : e2_Q8)
def bn3868 : e2_Q7 := (bn3861, bn3659)
def bn3869 : e2_Q8 := (bn3614, bn3868)
noncomputable def h_b597_2 : ev_H := (bn3869 : e2_Q8)
def bn3870 : e2_Q7 := (bn3861, bn3667)
def bn3871 : e2_Q8 := (bn3614, bn3870)
noncomputable def h_b597_3 : ev_H := (bn3871 : e2_Q8)
def bn3872 : e2_Q7 := (bn3861, bn3675)
def bn3873 : e2_Q8 := (bn3614, bn3872)
noncomputable def h_b597_4 : ev_H := (bn3873 : e2_Q8)
def bn3874 : e2_Q7 := (bn3861, bn3683)
def bn3875 : e2_Q8 := (bn3614, bn3874)
noncomputable def h_b597_5 : ev_H := (bn3875 : e2_Q8)
def bn3876 : e2_Q7 := (bn3861, bn3691)
def bn3877 : e2_Q8 := (bn3614, bn3876)
noncomputable def h_b597_6 : ev_H := (bn3877 : e2_Q8)
def bn3878 : e2_Q7 := (bn3861, bn3699)
def bn3879 : e2_Q8 := (bn3614, bn3878)
noncomputable def h_b597_7 : ev_H := (bn3879 : e2_Q8)
def bn3880 : e2_Q7 := (bn3861, bn3707)
def bn3881 : e2_Q8 := (bn3614, bn3880)
noncomputable def h_b597_8 : ev_H := (bn3881 : e2_Q8)
def bn3882 : e2_Q7 := (bn3861, bn3715)
def bn3883 : e2_Q8 := (bn3614, bn3882)
noncomputable def h_b597_9 : ev_H := (bn3883 : e2_Q8)
def bn3884 : e2_Q7 := (bn3861, bn3723)
def bn3885 : e2_Q8 := (bn3614, bn3884)
noncomputable def h_b597_10 : ev_H := (bn3885 : e2_Q8)
def bn3886 : e2_Q7 := (bn3861, bn3731)
def bn3887 : e2_Q8 := (bn3614, bn3886)
noncomputable def h_b597_11 : ev_H := (bn3887 : e2_Q8)
def bn3888 : e2_Q7 := (bn3861, bn3739)
def bn3889 : e2_Q8 := (bn3614, bn3888)
noncomputable def h_b597_12 : ev_H := (bn3889 : e2_Q8)
def bn3890 : e2_Q7 := (bn3861, bn3747)
def bn3891 : e2_Q8 := (bn3614, bn3890)
noncomputable def h_b597_13 : ev_H := (bn3891 : e2_Q8)
def bn3892 : e2_Q7 := (bn3861, bn3755)
def bn3893 : e2_Q8 := (bn3614, bn3892)
noncomputable def h_b597_14 : ev_H := (bn3893 : e2_Q8)
def bn3894 : e2_Q7 := (bn3861, bn3763)
def bn3895 : e2_Q8 := (bn3614, bn3894)
noncomputable def h_b597_15 : ev_H := (bn3895 : e2_Q8)
def bn3896 : e2_Q7 := (bn3861, bn3771)
def bn3897 : e2_Q8 := (bn3614, bn3896)
noncomputable def h_b597_16 : ev_H := (bn3897 : e2_Q8)
def bn3898 : e2_Q7 := (bn3861, bn3779)
def bn3899 : e2_Q8 := (bn3614, bn3898)
noncomputable def h_b597_17 : ev_H := (bn3899 : e2_Q8)
def bn3900 : e2_Q7 := (bn3861, bn3787)
def bn3901 : e2_Q8 := (bn3614, bn3900)
noncomputable def h_b597_18 : ev_H := (bn3901 : e2_Q8)
def bn3902 : e2_Q7 := (bn3861, bn3795)
def bn3903 : e2_Q8 := (bn3614, bn3902)
noncomputable def h_b597_19 : ev_H := (bn3903 : e2_Q8)
noncomputable def h_b597_20 : ev_H := (bn3863 : e2_Q8)
def bn3904 : e2_Q7 := (bn3861, bn3803)
def bn3905 : e2_Q8 := (bn3614, bn3904)
noncomputable def h_b597_21 : ev_H := (bn3905 : e2_Q8)
noncomputable def h_b597_22 : ev_H := (bn3905 : e2_Q8)
noncomputable def h_b597_23 : ev_H := (bn3905 : e2_Q8)
noncomputable def h_b597_24 : ev_H := (bn3905 : e2_Q8)
noncomputable def h_b597_25 : ev_H := (bn3905 : e2_Q8)
noncomputable def cu_b597_120 : List e2_Cu := [([(2, 83, 0), (11, 0, 4294967295), (0, 0, 0), (0, 8, 0), (9, 0, 0)], [(2147483648, 2147583648, 0, 0), (2147483651, 2147483651, 1, 0)], h_b597_0),
  ([(2, 83, 0), (11, 0, 4294967295), (0, 1, 0), (11, 2147483648, 2147483656), (11, 2147483647, 2147483650)], [(2147483648, 2147583648, 0, 0), (2147483651, 2147483651, 1, 0)], h_b597_1),
  ([(2, 83, 0), (11, 0, 4294967295), (0, 2, 0), (11, 2147483648, 2147483656), (11, 2147483647, 2147483650)], [(2147483648, 2147583648, 0, 0), (2147483651, 2147483651, 1, 0)], h_b597_2),
  ([(2, 83, 0), (11, 0, 4294967295), (0, 3, 0), (11, 2147483648, 2147483656), (11, 2147483647, 2147483650)], [(2147483648, 2147583648, 0, 0), (2147483651, 2147483651, 1, 0)], h_b597_3),
  ([(2, 83, 0), (11, 0, 4294967295), (0, 4, 0), (11, 2147483648, 2147483656), (11, 2147483647, 2147483650)], [(2147483648, 2147583648, 0, 0), (2147483651, 2147483651, 1, 0)], h_b597_4),
  ([(2, 83, 0), (11, 0, 4294967295), (0, 5, 0), (11, 2147483648, 2147483656), (11, 2147483647, 2147483650)], [(2147483648, 2147583648, 0, 0), (2147483651, 2147483651, 1, 0)], h_b597_5),
  ([(2, 83, 0), (11, 0, 4294967295), (0, 6, 0), (11, 2147483648, 2147483656), (11, 2147483647, 2147483650)], [(2147483648, 2147583648, 0, 0), (2147483651, 2147483651, 1, 0)], h_b597_6),
  ([(2, 83, 0), (11, 0, 4294967295), (0, 7, 0), (11, 2147483648, 2147483656), (11, 2147483647, 2147483650)], [(2147483648, 2147583648, 0, 0), (2147483651, 2147483651, 1, 0)], h_b597_7),
  ([(2, 83, 0), (11, 0, 4294967295), (0, 8, 0), (11, 2147483648, 2147483656), (11, 2147483647, 2147483650)], [(2147483648, 2147583648, 0, 0), (2147483651, 2147483651, 1, 0)], h_b597_8),
  ([(2, 83, 0), (11, 0, 4294967295), (0, 9, 0), (11, 2147483648, 2147483656), (11, 2147483647, 2147483650)], [(2147483648, 2147583648, 0, 0), (2147483651, 2147483651, 1, 0)], h_b597_9),
  ([(2, 83, 0), (11, 0, 4294967295), (0, 10, 0), (11, 2147483648, 2147483656), (11, 2147483647, 2147483650)], [(2147483648, 2147583648, 0, 0), (2147483651, 2147483651, 1, 0)], h_b597_10),
  ([(2, 83, 0), (11, 0, 4294967295), (0, 11, 0), (11, 2147483648, 2147483656), (11, 2147483647, 2147483650)], [(2147483648, 2147583648, 0, 0), (2147483651, 2147483651, 1, 0)], h_b597_11),
  ([(2, 83, 0), (11, 0, 4294967295), (0, 12, 0), (11, 2147483648, 2147483656), (11, 2147483647, 2147483650)], [(2147483648, 2147583648, 0, 0), (2147483651, 2147483651, 1, 0)], h_b597_12),
  ([(2, 83, 0), (11, 0, 4294967295), (0, 13, 0), (11, 2147483648, 2147483656), (11, 2147483647, 2147483650)], [(2147483648, 2147583648, 0, 0), (2147483651, 2147483651, 1, 0)], h_b597_13),
  ([(2, 83, 0), (11, 0, 4294967295), (0, 14, 0), (11, 2147483648, 2147483656), (11, 2147483647, 2147483650)], [(2147483648, 2147583648, 0, 0), (2147483651, 2147483651, 1, 0)], h_b597_14),
  ([(2, 83, 0), (11, 0, 4294967295), (0, 15, 0), (11, 2147483648, 2147483656), (11, 2147483647, 2147483650)], [(2147483648, 2147583648, 0, 0), (2147483651, 2147483651, 1, 0)], h_b597_15),
  ([(2, 83, 0), (11, 0, 4294967295), (0, 16, 0), (11, 2147483648, 2147483656), (11, 2147483647, 2147483650)], [(2147483648, 2147583648, 0, 0), (2147483651, 2147483651, 1, 0)], h_b597_16),
  ([(2, 83, 0), (11, 0, 4294967295), (0, 17, 0), (11, 2147483648, 2147483656), (11, 2147483647, 2147483650)], [(2147483648, 2147583648, 0, 0), (2147483651, 2147483651, 1, 0)], h_b597_17),
  ([(2, 83, 0), (11, 0, 4294967295), (0, 18, 0), (11, 2147483648, 2147483656), (11, 2147483647, 2147483650)], [(2147483648, 2147583648, 0, 0), (2147483651, 2147483651, 1, 0)], h_b597_18),
  ([(2, 83, 0), (11, 0, 4294967295), (0, 19, 0), (11, 2147483648, 2147483656), (11, 2147483647, 2147483650)], [(2147483648, 2147583648, 0, 0), (2147483651, 2147483651, 1, 0)], h_b597_19),
  ([(2, 83, 0), (11, 0, 4294967295), (0, 20, 0), (11, 2147483648, 2147483656), (11, 2147483647, 2147483650)], [(2147483648, 2147583648, 0, 0), (2147483651, 2147483651, 1, 0)], h_b597_20),
  ([(2, 83, 0), (11, 0, 4294967295), (0, 21, 0), (11, 2147483648, 2147483650), (11, 2147483648, 2147483650)], [(2147483648, 2147583648, 0, 0), (2147483651, 2147483651, 1, 0)], h_b597_21),
  ([(2, 83, 0), (11, 0, 4294967295), (0, 22, 0), (11, 2147483648, 2147483650), (11, 2147483648, 2147483650)], [(2147483648, 2147583648, 0, 0), (2147483651, 2147483651, 1, 0)], h_b597_22),
  ([(2, 83, 0), (11, 0, 4294967295), (0, 23, 0), (11, 2147483648, 2147483650), (11, 2147483648, 2147483650)], [(2147483648, 2147583648, 0, 0), (2147483651, 2147483651, 1, 0)], h_b597_23),
  ([(2, 83, 0), (11, 0, 4294967295), (0, 24, 0), (11, 2147483648, 2147483650), (11, 2147483648, 2147483650)], [(2147483648, 2147583648, 0, 0), (2147483651, 2147483651, 1, 0)], h_b597_24),
  ([(2, 83, 0), (11, 0, 4294967295), (0, 25, 0), (11, 2147483648, 2147483650), (11, 2147483648, 2147483650)], [(2147483648, 2147583648, 0, 0), (2147483651, 2147483651, 1, 0)], h_b597_25)]
noncomputable def cl_b597_e : List (Nat × e2_S) := [(2, e2_cutL (al_b597_26.set 2 (11, 2147483648, 2147483657)) 2 (E_b597_26.take 2) h_b597_26)]
set_option maxRecDepth 1000000 in
theorem ck_b597_e : e2_run (e2_orG 231 83 11 2 2147483648 2147483668 as_b593 Eb_b593 f_b593 rs_b593 (e2_orG 231 83 11 2 2147483648 2147483668 as_b592 Eb_b592 f_b592 rs_b592 (e2_orG 231 83 11 2 2147483648 2147483668 as_b591 Eb_b591 f_b591 rs_b591 (e2_orG 231 83 11 2 2147483648 2147483668 as_b590 Eb_b590 f_b590 rs_b590 (e2_orG 231 83 11 2 2147483648 2147483668 as_b589 Eb_b589 f_b589 rs_b589 (e2_orG 231 83 11 2 2147483648 2147483668 as_b588 Eb_b588 f_b588 rs_b588 (e2_orG 231 83 11 2 2147483648 2147483668 as_b587 Eb_b587 f_b587 rs_b587 (e2_orG 231 83 11 2 2147483648 2147483668 as_b586 Eb_b586 f_b586 rs_b586 (e2_orG 231 83 11 2 2147483648 2147483668 as_b585 Eb_b585 f_b585 rs_b585 (e2_orG 231 83 11 2 2147483648 2147483668 as_b584 Eb_b584 f_b584 rs_b584 (e2_orG 231 83 11 2 2147483648 2147483668 as_b583 Eb_b583 f_b583 rs_b583 (e2_orG 231 83 11 2 2147483648 2147483668 as_b582 Eb_b582 f_b582 rs_b582 (e2_orG 231 83 11 2 2147483648 2147483668 as_b581 Eb_b581 f_b581 rs_b581 (e2_orG 231 83 11 2 2147483648 2147483668 as_b580 Eb_b580 f_b580 rs_b580 (e2_orG 231 83 11 2 2147483648 2147483668 as_b579 Eb_b579 f_b579 rs_b579 (e2_orG 231 83 11 2 2147483648 2147483668 as_b578 Eb_b578 f_b578 rs_b578 (e2_orG 231 83 11 2 2147483648 2147483668 as_b577 Eb_b577 f_b577 rs_b577 (e2_orG 231 83 11 2 2147483648 2147483668 as_b576 Eb_b576 f_b576 rs_b576 (e2_orG 231 83 11 2 2147483648 2147483668 as_b575 Eb_b575 f_b575 rs_b575 (e2_orG 231 83 11 2 2147483648 2147483668 as_b574 Eb_b574 f_b574 rs_b574 (e2_cal S_b597 I_b597 4000 1))))))))))))))))))))) (e2_fin rs_b597) e2x_230 (e2_bpL cl_b597_e) (e2_cutA cl_b597_e) 4000 (e2_seek e2x_230 0) (e2_al 5 as_b597) [] E_b597 f_b597 = true := by decide +kernel
noncomputable def cl_b597_26 : List (Nat × e2_S) := [(2, e2_cutL (al_b597_26.set 2 (13, 10, 2147483657)) 2 (E_b597_26.take 2) h_b597_26),
  (49, e2_cutL (al_b597_27.set 2 (11, 2147483647, 2147483667)) 2 (E_b597_27.take 2) h_b597_27)]
set_option maxRecDepth 1000000 in
theorem ck_b597_26 : e2_runM (e2_orG 231 83 11 2 2147483648 2147483668 as_b593 Eb_b593 f_b593 rs_b593 (e2_orG 231 83 11 2 2147483648 2147483668 as_b592 Eb_b592 f_b592 rs_b592 (e2_orG 231 83 11 2 2147483648 2147483668 as_b591 Eb_b591 f_b591 rs_b591 (e2_orG 231 83 11 2 2147483648 2147483668 as_b590 Eb_b590 f_b590 rs_b590 (e2_orG 231 83 11 2 2147483648 2147483668 as_b589 Eb_b589 f_b589 rs_b589 (e2_orG 231 83 11 2 2147483648 2147483668 as_b588 Eb_b588 f_b588 rs_b588 (e2_orG 231 83 11 2 2147483648 2147483668 as_b587 Eb_b587 f_b587 rs_b587 (e2_orG 231 83 11 2 2147483648 2147483668 as_b586 Eb_b586 f_b586 rs_b586 (e2_orG 231 83 11 2 2147483648 2147483668 as_b585 Eb_b585 f_b585 rs_b585 (e2_orG 231 83 11 2 2147483648 2147483668 as_b584 Eb_b584 f_b584 rs_b584 (e2_orG 231 83 11 2 2147483648 2147483668 as_b583 Eb_b583 f_b583 rs_b583 (e2_orG 231 83 11 2 2147483648 2147483668 as_b582 Eb_b582 f_b582 rs_b582 (e2_orG 231 83 11 2 2147483648 2147483668 as_b581 Eb_b581 f_b581 rs_b581 (e2_orG 231 83 11 2 2147483648 2147483668 as_b580 Eb_b580 f_b580 rs_b580 (e2_orG 231 83 11 2 2147483648 2147483668 as_b579 Eb_b579 f_b579 rs_b579 (e2_orG 231 83 11 2 2147483648 2147483668 as_b578 Eb_b578 f_b578 rs_b578 (e2_orG 231 83 11 2 2147483648 2147483668 as_b577 Eb_b577 f_b577 rs_b577 (e2_orG 231 83 11 2 2147483648 2147483668 as_b576 Eb_b576 f_b576 rs_b576 (e2_orG 231 83 11 2 2147483648 2147483668 as_b575 Eb_b575 f_b575 rs_b575 (e2_orG 231 83 11 2 2147483648 2147483668 as_b574 Eb_b574 f_b574 rs_b574 (e2_cal S_b597 I_b597 4000 1))))))))))))))))))))) (e2_fin rs_b597) e2x_230 (e2_bpL cl_b597_26) (e2_cutA cl_b597_26) 4000 (e2_seek e2x_230 2) al_b597_26 [] E_b597_26 h_b597_26 = true := by decide +kernel
set_option maxRecDepth 1000000 in
theorem ci_b597_26 : e2_idl 2 (al_b597_26.set 2 (9, 0, 0)) = true := by decide +kernel
set_option maxRecDepth 1000000 in
theorem cj_b597_26 : e2_idh 2 8 h_b597_26 = true := by decide +kernel
noncomputable def cl_b597_27 : List (Nat × e2_S) := [(120, e2_cutS cu_b597_120),
  (55, e2_cutL (al_b597_28.set 3 (11, 2147483648, 2147483657)) 3 (E_b597_28.take 3) h_b597_28)]
set_option maxRecDepth 1000000 in
theorem ck_b597_27 : e2_runM (e2_orG 231 83 11 2 2147483648 2147483668 as_b593 Eb_b593 f_b593 rs_b593 (e2_orG 231 83 11 2 2147483648 2147483668 as_b592 Eb_b592 f_b592 rs_b592 (e2_orG 231 83 11 2 2147483648 2147483668 as_b591 Eb_b591 f_b591 rs_b591 (e2_orG 231 83 11 2 2147483648 2147483668 as_b590 Eb_b590 f_b590 rs_b590 (e2_orG 231 83 11 2 2147483648 2147483668 as_b589 Eb_b589 f_b589 rs_b589 (e2_orG 231 83 11 2 2147483648 2147483668 as_b588 Eb_b588 f_b588 rs_b588 (e2_orG 231 83 11 2 2147483648 2147483668 as_b587 Eb_b587 f_b587 rs_b587 (e2_orG 231 83 11 2 2147483648 2147483668 as_b586 Eb_b586 f_b586 rs_b586 (e2_orG 231 83 11 2 2147483648 2147483668 as_b585 Eb_b585 f_b585 rs_b585 (e2_orG 231 83 11 2 2147483648 2147483668 as_b584 Eb_b584 f_b584 rs_b584 (e2_orG 231 83 11 2 2147483648 2147483668 as_b583 Eb_b583 f_b583 rs_b583 (e2_orG 231 83 11 2 2147483648 2147483668 as_b582 Eb_b582 f_b582 rs_b582 (e2_orG 231 83 11 2 2147483648 2147483668 as_b581 Eb_b581 f_b581 rs_b581 (e2_orG 231 83 11 2 2147483648 2147483668 as_b580 Eb_b580 f_b580 rs_b580 (e2_orG 231 83 11 2 2147483648 2147483668 as_b579 Eb_b579 f_b579 rs_b579 (e2_orG 231 83 11 2 2147483648 2147483668 as_b578 Eb_b578 f_b578 rs_b578 (e2_orG 231 83 11 2 2147483648 2147483668 as_b577 Eb_b577 f_b577 rs_b577 (e2_orG 231 83 11 2 2147483648 2147483668 as_b576 Eb_b576 f_b576 rs_b576 (e2_orG 231 83 11 2 2147483648 2147483668 as_b575 Eb_b575 f_b575 rs_b575 (e2_orG 231 83 11 2 2147483648 2147483668 as_b574 Eb_b574 f_b574 rs_b574 (e2_cal S_b597 I_b597 4000 1))))))))))))))))))))) (e2_fin rs_b597) e2x_230 (e2_bpL cl_b597_27) (e2_cutA cl_b597_27) 4000 (e2_seek e2x_230 49) al_b597_27 [] E_b597_27 h_b597_27 = true := by decide +kernel
set_option maxRecDepth 1000000 in
theorem ci_b597_27 : e2_idl 2 (al_b597_27.set 2 (9, 0, 0)) = true := by decide +kernel
set_option maxRecDepth 1000000 in
theorem cj_b597_27 : e2_idh 2 8 h_b597_27 = true := by decide +kernel
noncomputable def cl_b597_28 : List (Nat × e2_S) := [(49, e2_cutL (al_b597_27.set 2 (12, 10, 2147483647)) 2 (E_b597_27.take 2) h_b597_27),
  (55, e2_cutL (al_b597_28.set 3 (13, 11, 2147483657)) 3 (E_b597_28.take 3) h_b597_28)]
set_option maxRecDepth 1000000 in
theorem ck_b597_28 : e2_runM (e2_orG 231 83 11 2 2147483648 2147483668 as_b593 Eb_b593 f_b593 rs_b593 (e2_orG 231 83 11 2 2147483648 2147483668 as_b592 Eb_b592 f_b592 rs_b592 (e2_orG 231 83 11 2 2147483648 2147483668 as_b591 Eb_b591 f_b591 rs_b591 (e2_orG 231 83 11 2 2147483648 2147483668 as_b590 Eb_b590 f_b590 rs_b590 (e2_orG 231 83 11 2 2147483648 2147483668 as_b589 Eb_b589 f_b589 rs_b589 (e2_orG 231 83 11 2 2147483648 2147483668 as_b588 Eb_b588 f_b588 rs_b588 (e2_orG 231 83 11 2 2147483648 2147483668 as_b587 Eb_b587 f_b587 rs_b587 (e2_orG 231 83 11 2 2147483648 2147483668 as_b586 Eb_b586 f_b586 rs_b586 (e2_orG 231 83 11 2 2147483648 2147483668 as_b585 Eb_b585 f_b585 rs_b585 (e2_orG 231 83 11 2 2147483648 2147483668 as_b584 Eb_b584 f_b584 rs_b584 (e2_orG 231 83 11 2 2147483648 2147483668 as_b583 Eb_b583 f_b583 rs_b583 (e2_orG 231 83 11 2 2147483648 2147483668 as_b582 Eb_b582 f_b582 rs_b582 (e2_orG 231 83 11 2 2147483648 2147483668 as_b581 Eb_b581 f_b581 rs_b581 (e2_orG 231 83 11 2 2147483648 2147483668 as_b580 Eb_b580 f_b580 rs_b580 (e2_orG 231 83 11 2 2147483648 2147483668 as_b579 Eb_b579 f_b579 rs_b579 (e2_orG 231 83 11 2 2147483648 2147483668 as_b578 Eb_b578 f_b578 rs_b578 (e2_orG 231 83 11 2 2147483648 2147483668 as_b577 Eb_b577 f_b577 rs_b577 (e2_orG 231 83 11 2 2147483648 2147483668 as_b576 Eb_b576 f_b576 rs_b576 (e2_orG 231 83 11 2 2147483648 2147483668 as_b575 Eb_b575 f_b575 rs_b575 (e2_orG 231 83 11 2 2147483648 2147483668 as_b574 Eb_b574 f_b574 rs_b574 (e2_cal S_b597 I_b597 4000 1))))))))))))))))))))) (e2_fin rs_b597) e2x_230 (e2_bpL cl_b597_28) (e2_cutA cl_b597_28) 4000 (e2_seek e2x_230 55) al_b597_28 [] E_b597_28 h_b597_28 = true := by decide +kernel
set_option maxRecDepth 1000000 in
theorem ci_b597_28 : e2_idl 3 (al_b597_28.set 3 (9, 0, 0)) = true := by decide +kernel
set_option maxRecDepth 1000000 in
theorem cj_b597_28 : e2_idh 3 8 h_b597_28 = true := by decide +kernel
set_option maxRecDepth 1000000 in
theorem ck_b597_u120 : e2_cutsB (e2_orG 231 83 11 2 2147483648 2147483668 as_b593 Eb_b593 f_b593 rs_b593 (e2_orG 231 83 11 2 2147483648 2147483668 as_b592 Eb_b592 f_b592 rs_b592 (e2_orG 231 83 11 2 2147483648 2147483668 as_b591 Eb_b591 f_b591 rs_b591 (e2_orG 231 83 11 2 2147483648 2147483668 as_b590 Eb_b590 f_b590 rs_b590 (e2_orG 231 83 11 2 2147483648 2147483668 as_b589 Eb_b589 f_b589 rs_b589 (e2_orG 231 83 11 2 2147483648 2147483668 as_b588 Eb_b588 f_b588 rs_b588 (e2_orG 231 83 11 2 2147483648 2147483668 as_b587 Eb_b587 f_b587 rs_b587 (e2_orG 231 83 11 2 2147483648 2147483668 as_b586 Eb_b586 f_b586 rs_b586 (e2_orG 231 83 11 2 2147483648 2147483668 as_b585 Eb_b585 f_b585 rs_b585 (e2_orG 231 83 11 2 2147483648 2147483668 as_b584 Eb_b584 f_b584 rs_b584 (e2_orG 231 83 11 2 2147483648 2147483668 as_b583 Eb_b583 f_b583 rs_b583 (e2_orG 231 83 11 2 2147483648 2147483668 as_b582 Eb_b582 f_b582 rs_b582 (e2_orG 231 83 11 2 2147483648 2147483668 as_b581 Eb_b581 f_b581 rs_b581 (e2_orG 231 83 11 2 2147483648 2147483668 as_b580 Eb_b580 f_b580 rs_b580 (e2_orG 231 83 11 2 2147483648 2147483668 as_b579 Eb_b579 f_b579 rs_b579 (e2_orG 231 83 11 2 2147483648 2147483668 as_b578 Eb_b578 f_b578 rs_b578 (e2_orG 231 83 11 2 2147483648 2147483668 as_b577 Eb_b577 f_b577 rs_b577 (e2_orG 231 83 11 2 2147483648 2147483668 as_b576 Eb_b576 f_b576 rs_b576 (e2_orG 231 83 11 2 2147483648 2147483668 as_b575 Eb_b575 f_b575 rs_b575 (e2_orG 231 83 11 2 2147483648 2147483668 as_b574 Eb_b574 f_b574 rs_b574 (e2_cal S_b597 I_b597 4000 1))))))))))))))))))))) (e2_fin rs_b597) e2x_230 120 4000 cu_b597_120 = true := by decide +kernel
set_option maxRecDepth 1000000 in
theorem cs_b597 (hen : en_ok) (l : Launch) : e2_smOk l 5 s_b597 := by
  refine e2_conC (H := 4) (C := evd_230) (call := (e2_orG 231 83 11 2 2147483648 2147483668 as_b593 Eb_b593 f_b593 rs_b593 (e2_orG 231 83 11 2 2147483648 2147483668 as_b592 Eb_b592 f_b592 rs_b592 (e2_orG 231 83 11 2 2147483648 2147483668 as_b591 Eb_b591 f_b591 rs_b591 (e2_orG 231 83 11 2 2147483648 2147483668 as_b590 Eb_b590 f_b590 rs_b590 (e2_orG 231 83 11 2 2147483648 2147483668 as_b589 Eb_b589 f_b589 rs_b589 (e2_orG 231 83 11 2 2147483648 2147483668 as_b588 Eb_b588 f_b588 rs_b588 (e2_orG 231 83 11 2 2147483648 2147483668 as_b587 Eb_b587 f_b587 rs_b587 (e2_orG 231 83 11 2 2147483648 2147483668 as_b586 Eb_b586 f_b586 rs_b586 (e2_orG 231 83 11 2 2147483648 2147483668 as_b585 Eb_b585 f_b585 rs_b585 (e2_orG 231 83 11 2 2147483648 2147483668 as_b584 Eb_b584 f_b584 rs_b584 (e2_orG 231 83 11 2 2147483648 2147483668 as_b583 Eb_b583 f_b583 rs_b583 (e2_orG 231 83 11 2 2147483648 2147483668 as_b582 Eb_b582 f_b582 rs_b582 (e2_orG 231 83 11 2 2147483648 2147483668 as_b581 Eb_b581 f_b581 rs_b581 (e2_orG 231 83 11 2 2147483648 2147483668 as_b580 Eb_b580 f_b580 rs_b580 (e2_orG 231 83 11 2 2147483648 2147483668 as_b579 Eb_b579 f_b579 rs_b579 (e2_orG 231 83 11 2 2147483648 2147483668 as_b578 Eb_b578 f_b578 rs_b578 (e2_orG 231 83 11 2 2147483648 2147483668 as_b577 Eb_b577 f_b577 rs_b577 (e2_orG 231 83 11 2 2147483648 2147483668 as_b576 Eb_b576 f_b576 rs_b576 (e2_orG 231 83 11 2 2147483648 2147483668 as_b575 Eb_b575 f_b575 rs_b575 (e2_orG 231 83 11 2 2147483648 2147483668 as_b574 Eb_b574 f_b574 rs_b574 (e2_cal S_b597 I_b597 4000 1)))))))))))))))))))))) ei_230 (fun d hd => (e2_orG_ok (k0 := 231) (a := 83) (j := 11) (n := 2) (lo := 2147483648) (hi := 2147483668) (as0 := as_b593) (Eb := Eb_b593) (f := f_b593) (res := rs_b593) (e2_orG_ok (k0 := 231) (a := 83) (j := 11) (n := 2) (lo := 2147483648) (hi := 2147483668) (as0 := as_b592) (Eb := Eb_b592) (f := f_b592) (res := rs_b592) (e2_orG_ok (k0 := 231) (a := 83) (j := 11) (n := 2) (lo := 2147483648) (hi := 2147483668) (as0 := as_b591) (Eb := Eb_b591) (f := f_b591) (res := rs_b591) (e2_orG_ok (k0 := 231) (a := 83) (j := 11) (n := 2) (lo := 2147483648) (hi := 2147483668) (as0 := as_b590) (Eb := Eb_b590) (f := f_b590) (res := rs_b590) (e2_orG_ok (k0 := 231) (a := 83) (j := 11) (n := 2) (lo := 2147483648) (hi := 2147483668) (as0 := as_b589) (Eb := Eb_b589) (f := f_b589) (res := rs_b589) (e2_orG_ok (k0 := 231) (a := 83) (j := 11) (n := 2) (lo := 2147483648) (hi := 2147483668) (as0 := as_b588) (Eb := Eb_b588) (f := f_b588) (res := rs_b588) (e2_orG_ok (k0 := 231) (a := 83) (j := 11) (n := 2) (lo := 2147483648) (hi := 2147483668) (as0 := as_b587) (Eb := Eb_b587) (f := f_b587) (res := rs_b587) (e2_orG_ok (k0 := 231) (a := 83) (j := 11) (n := 2) (lo := 2147483648) (hi := 2147483668) (as0 := as_b586) (Eb := Eb_b586) (f := f_b586) (res := rs_b586) (e2_orG_ok (k0 := 231) (a := 83) (j := 11) (n := 2) (lo := 2147483648) (hi := 2147483668) (as0 := as_b585) (Eb := Eb_b585) (f := f_b585) (res := rs_b585) (e2_orG_ok (k0 := 231) (a := 83) (j := 11) (n := 2) (lo := 2147483648) (hi := 2147483668) (as0 := as_b584) (Eb := Eb_b584) (f := f_b584) (res := rs_b584) (e2_orG_ok (k0 := 231) (a := 83) (j := 11) (n := 2) (lo := 2147483648) (hi := 2147483668) (as0 := as_b583) (Eb := Eb_b583) (f := f_b583) (res := rs_b583) (e2_orG_ok (k0 := 231) (a := 83) (j := 11) (n := 2) (lo := 2147483648) (hi := 2147483668) (as0 := as_b582) (Eb := Eb_b582) (f := f_b582) (res := rs_b582) (e2_orG_ok (k0 := 231) (a := 83) (j := 11) (n := 2) (lo := 2147483648) (hi := 2147483668) (as0 := as_b581) (Eb := Eb_b581) (f := f_b581) (res := rs_b581) (e2_orG_ok (k0 := 231) (a := 83) (j := 11) (n := 2) (lo := 2147483648) (hi := 2147483668) (as0 := as_b580) (Eb := Eb_b580) (f := f_b580) (res := rs_b580) (e2_orG_ok (k0 := 231) (a := 83) (j := 11) (n := 2) (lo := 2147483648) (hi := 2147483668) (as0 := as_b579) (Eb := Eb_b579) (f := f_b579) (res := rs_b579) (e2_orG_ok (k0 := 231) (a := 83) (j := 11) (n := 2) (lo := 2147483648) (hi := 2147483668) (as0 := as_b578) (Eb := Eb_b578) (f := f_b578) (res := rs_b578) (e2_orG_ok (k0 := 231) (a := 83) (j := 11) (n := 2) (lo := 2147483648) (hi := 2147483668) (as0 := as_b577) (Eb := Eb_b577) (f := f_b577) (res := rs_b577) (e2_orG_ok (k0 := 231) (a := 83) (j := 11) (n := 2) (lo := 2147483648) (hi := 2147483668) (as0 := as_b576) (Eb := Eb_b576) (f := f_b576) (res := rs_b576) (e2_orG_ok (k0 := 231) (a := 83) (j := 11) (n := 2) (lo := 2147483648) (hi := 2147483668) (as0 := as_b575) (Eb := Eb_b575) (f := f_b575) (res := rs_b575) (e2_orG_ok (k0 := 231) (a := 83) (j := 11) (n := 2) (lo := 2147483648) (hi := 2147483668) (as0 := as_b574) (Eb := Eb_b574) (f := f_b574) (res := rs_b574) (e2_cal_ok hen (e2_fa (cs_b554 hen l) (e2_fa (cs_b555 hen l) (e2_fa (cs_b556 hen l) (e2_fa (cs_b557 hen l) (e2_fa (cs_b558 hen l) (e2_fa (cs_b559 hen l) (e2_fa (cs_b560 hen l) (e2_fa (cs_b561 hen l) (e2_fa (cs_b562 hen l) (e2_fa (cs_b563 hen l) (e2_fa (cs_b564 hen l) (e2_fa (cs_b565 hen l) (e2_fa (cs_b566 hen l) (e2_fa (cs_b567 hen l) (e2_fa (cs_b568 hen l) (e2_fa (cs_b569 hen l) (e2_fa (cs_b570 hen l) (e2_fa (cs_b571 hen l) (e2_fa (cs_b572 hen l) (e2_fa (cs_b573 hen l) e2_fz)))))))))))))))))))) (e2_fa ein_216 (e2_fa ein_217 (e2_fa ein_227 e2_fz))) 1 d (by omega)) rfl (by decide +kernel) (fun M hM => (cs_b574 hen l).2 M hM d (by omega)) (e2_okGB_ok cog_b574)) rfl (by decide +kernel) (fun M hM => (cs_b575 hen l).2 M hM d (by omega)) (e2_okGB_ok cog_b575)) rfl (by decide +kernel) (fun M hM => (cs_b576 hen l).2 M hM d (by omega)) (e2_okGB_ok cog_b576)) rfl (by decide +kernel) (fun M hM => (cs_b577 hen l).2 M hM d (by omega)) (e2_okGB_ok cog_b577)) rfl (by decide +kernel) (fun M hM => (cs_b578 hen l).2 M hM d (by omega)) (e2_okGB_ok cog_b578)) rfl (by decide +kernel) (fun M hM => (cs_b579 hen l).2 M hM d (by omega)) (e2_okGB_ok cog_b579)) rfl (by decide +kernel) (fun M hM => (cs_b580 hen l).2 M hM d (by omega)) (e2_okGB_ok cog_b580)) rfl (by decide +kernel) (fun M hM => (cs_b581 hen l).2 M hM d (by omega)) (e2_okGB_ok cog_b581)) rfl (by decide +kernel) (fun M hM => (cs_b582 hen l).2 M hM d (by omega)) (e2_okGB_ok cog_b582)) rfl (by decide +kernel) (fun M hM => (cs_b583 hen l).2 M hM d (by omega)) (e2_okGB_ok cog_b583)) rfl (by decide +kernel) (fun M hM => (cs_b584 hen l).2 M hM d (by omega)) (e2_okGB_ok cog_b584)) rfl (by decide +kernel) (fun M hM => (cs_b585 hen l).2 M hM d (by omega)) (e2_okGB_ok cog_b585)) rfl (by decide +kernel) (fun M hM => (cs_b586 hen l).2 M hM d (by omega)) (e2_okGB_ok cog_b586)) rfl (by decide +kernel) (fun M hM => (cs_b587 hen l).2 M hM d (by omega)) (e2_okGB_ok cog_b587)) rfl (by decide +kernel) (fun M hM => (cs_b588 hen l).2 M hM d (by omega)) (e2_okGB_ok cog_b588)) rfl (by decide +kernel) (fun M hM => (cs_b589 hen l).2 M hM d (by omega)) (e2_okGB_ok cog_b589)) rfl (by decide +kernel) (fun M hM => (cs_b590 hen l).2 M hM d (by omega)) (e2_okGB_ok cog_b590)) rfl (by decide +kernel) (fun M hM => (cs_b591 hen l).2 M hM d (by omega)) (e2_okGB_ok cog_b591)) rfl (by decide +kernel) (fun M hM => (cs_b592 hen l).2 M hM d (by omega)) (e2_okGB_ok cog_b592)) rfl (by decide +kernel) (fun M hM => (cs_b593 hen l).2 M hM d (by omega)) (e2_okGB_ok cog_b593))) (by decide) co_b597 fun M d _ hC hcall p e R s m args below meth c Q D cA A ads r0 ha hl0 => ?_
  have EN_120 := e2_cutS_ok (bp := 120) (cuts := cu_b597_120) (e2_cuts_len hl0 (by decide +kernel)) (e2_cuts_ok hen ha hcall (hC [76, 192, 195]) (X := e2x_230) ex2_230 (e2_cuts_len hl0 (by decide +kernel)) ck_b597_u120)
  have L_27 : e2_gdM M p l e R s m args below meth c Q D cA A ads r0 49 al_b597_27 [] E_b597_27 h_b597_27 := by
    refine e2_indD (u := 2) (j := 2) (lo := 2147483647) (hi := 2147483667) hl0 (by decide) rfl rfl rfl ci_b597_27 cj_b597_27 ?_
    intro r_27 k_27 hk_27 hp_27 hs_27 hn_27
    have hl_27 : r_27.length ≤ 3 := hs_27.len rfl
    have ha_27 := ha.ext hp_27
    have L_28 : e2_gdM M p l e R s m args below meth c Q D cA A ads r_27 55 al_b597_28 [] E_b597_28 h_b597_28 := by
      refine e2_indL (u := 3) (j := 3) (lo := 2147483648) (hi := 2147483657) (b := 3) (dd := 0) hl_27 (by decide) rfl rfl (Or.inr ⟨rfl, rfl⟩) rfl ci_b597_28 cj_b597_28 ?_
      intro r_28 k_28 hk_28 hp_28 hs_28 hn_28
      have hl_28 : r_28.length ≤ 4 := hs_28.len rfl
      have ha_28 := ha_27.ext hp_28
      exact e2_fromM hen ha_28 hcall (e2_cutA_ok (e2_fa (fun al st E h hc => (hn_27 al st E h hc).ext hp_28) (e2_fa (fun al st E h hc => hn_28 al st E h hc) e2_fz))) (hC [76, 192, 195]) (X := e2x_230) ex2_230 55 ck_b597_28
    have EN_28 := e2_entL (u := 3) (j := 3) (lo := 2147483648) (hi := 2147483657) hl_27 rfl rfl rfl ci_b597_28 cj_b597_28 L_28
    exact e2_fromM hen ha_27 hcall (e2_cutA_ok (e2_fa (fun al st E h hc => (EN_120 al st E h hc).ext hp_27) (e2_fa (fun al st E h hc => EN_28 al st E h hc) e2_fz))) (hC [76, 192, 195]) (X := e2x_230) ex2_230 49 ck_b597_27
  have EN_27 := e2_entL (u := 2) (j := 2) (lo := 2147483647) (hi := 2147483667) hl0 rfl rfl rfl ci_b597_27 cj_b597_27 L_27
  have L_26 : e2_gdM M p l e R s m args below meth c Q D cA A ads r0 2 al_b597_26 [] E_b597_26 h_b597_26 := by
    refine e2_indL (u := 2) (j := 2) (lo := 2147483648) (hi := 2147483657) (b := 2) (dd := 0) hl0 (by decide) rfl rfl (Or.inr ⟨rfl, rfl⟩) rfl ci_b597_26 cj_b597_26 ?_
    intro r_26 k_26 hk_26 hp_26 hs_26 hn_26
    have hl_26 : r_26.length ≤ 3 := hs_26.len rfl
    have ha_26 := ha.ext hp_26
    exact e2_fromM hen ha_26 hcall (e2_cutA_ok (e2_fa (fun al st E h hc => hn_26 al st E h hc) (e2_fa (fun al st E h hc => (EN_27 al st E h hc).ext hp_26) e2_fz))) (hC [76, 192, 195]) (X := e2x_230) ex2_230 2 ck_b597_26
  have EN_26 := e2_entL (u := 2) (j := 2) (lo := 2147483648) (hi := 2147483657) hl0 rfl rfl rfl ci_b597_26 cj_b597_26 L_26
  exact e2_from hen ha hcall (e2_cutA_ok (e2_fa (fun al st E h hc => EN_26 al st E h hc) e2_fz)) (hC [76, 192, 195]) (X := e2x_230) ex2_230 0 ck_b597_e
/-! b598 X10_read -/
def as_b598 : List ev_V := [(2, 83, 0), (11, 0, 4294967295)]
def E_b598 : e2_E := [(2147483648, 2147583648, 0, 0), (2147483652, 2147483652, 1, 0)]
def bc287 : ev_C := (50, [(11, 2147483649, 2147483654), (11, 2147483649, 2147483654), (11, 2147483649, 2147483654), (11, 2147483649, 2147483654), (11, 2147483648, 2147483654), (11, 2147483648, 2147483654), (11, 2147483648, 2147483654), (11, 2147483648, 2147483654), (11, 2147483648, 2147483654), (11, 2147483648, 2147483654), (11, 2147483648, 2147483654), (11, 2147483648, 2147483654), (11, 2147483648, 2147483654), (11, 2147483648, 2147483654), (11, 2147483648, 2147483654), (11, 2147483648, 2147483654)])
def bn3906 : e2_Q1 := (bc287, bc3)
def bn3907 : e2_Q2 := (bn130, bn3906)
def bn3908 : e2_Q3 := (bn129, bn3907)
def bn3909 : e2_Q4 := (bn3908, bn3573)
def bn3910 : e2_Q5 := (bn3909, bn156)
def bn3911 : e2_Q6 := (bn3910, bn3624)
def bn3912 : e2_Q7 := (bn3911, bn3594)
def bn3913 : e2_Q8 := (bn3614, bn3912)
noncomputable def f_b598 : ev_H := (bn3913 : e2_Q8)
noncomputable def q_b598_0 : ev_H := (bn3913 : e2_Q8)
noncomputable def rs_b598 : e2_Rs := [((11, 2147483647, 2147483668), q_b598_0)]
noncomputable def s_b598 : e2_Sm := (230, as_b598, E_b598, f_b598, rs_b598)
noncomputable def S_b598 : List e2_Sm := [s_b554, s_b555, s_b556, s_b557, s_b558, s_b559, s_b560, s_b561, s_b562, s_b563, s_b564, s_b565, s_b566, s_b567, s_b568, s_b569, s_b570, s_b571, s_b572, s_b573]
noncomputable def I_b598 : List e2_In := [(216, 1, e2x_216), (217, 1, e2x_217), (227, 2, e2x_227)]
set_option maxRecDepth 1000000 in
theorem co_b598 : e2_okSB E_b598.length as_b598 f_b598 rs_b598 = true := by decide +kernel
def al_b598_26 : List ev_V := [(2, 83, 0), (11, 0, 4294967295), (1, 2, 4294967296), (9, 0, 0), (9, 0, 0)]
def E_b598_26 : e2_E := [(2147483648, 2147583648, 0, 0), (2147483652, 2147483652, 1, 0), (2147483648, 2147483657, 2, 0)]
noncomputable def h_b598_26 : ev_H := (bn3913 : e2_Q8)
def al_b598_27 : List ev_V := [(2, 83, 0), (11, 0, 4294967295), (1, 2, 4294967296), (9, 0, 0), (9, 0, 0)]
def E_b598_27 : e2_E := [(2147483648, 2147583648, 0, 0), (2147483652, 2147483652, 1, 0), (2147483647, 2147483667, 2, 0)]
noncomputable def h_b598_27 : ev_H := (bn3913 : e2_Q8)
def al_b598_28 : List ev_V := [(2, 83, 0), (11, 0, 4294967295), (1, 2, 4294967296), (1, 3, 4294967296), (9, 0, 0)]
def E_b598_28 : e2_E := [(2147483648, 2147583648, 0, 0), (2147483652, 2147483652, 1, 0), (2147483648, 2147483667, 2, 0), (2147483648, 2147483657, 3, 0)]
noncomputable def h_b598_28 : ev_H := (bn3913 : e2_Q8)
def bn3914 : e2_Q7 := (bn3911, bn3633)
def bn3915 : e2_Q8 := (bn3614, bn3914)
noncomputable def h_b598_0 : ev_H := (bn3915 : e2_Q8)
def bn3916 : e2_Q7 := (bn3911, bn3651)
def bn3917 : e2_Q8 := (bn3614, bn3916)
noncomputable def h_b598_1 : ev_H := (bn3917 : e2_Q8)
def bn3918 : e2_Q7 := (bn3911, bn3659)
def bn3919 : e2_Q8 := (bn3614, bn3918)
noncomputable def h_b598_2 : ev_H := (bn3919 : e2_Q8)
def bn3920 : e2_Q7 := (bn3911, bn3667)
def bn3921 : e2_Q8 := (bn3614, bn3920)
noncomputable def h_b598_3 : ev_H := (bn3921 : e2_Q8)
def bn3922 : e2_Q7 := (bn3911, bn3675)
def bn3923 : e2_Q8 := (bn3614, bn3922)
noncomputable def h_b598_4 : ev_H := (bn3923 : e2_Q8)
def bn3924 : e2_Q7 := (bn3911, bn3683)
def bn3925 : e2_Q8 := (bn3614, bn3924)
noncomputable def h_b598_5 : ev_H := (bn3925 : e2_Q8)
def bn3926 : e2_Q7 := (bn3911, bn3691)
def bn3927 : e2_Q8 := (bn3614, bn3926)
noncomputable def h_b598_6 : ev_H := (bn3927 : e2_Q8)
def bn3928 : e2_Q7 := (bn3911, bn3699)
def bn3929 : e2_Q8 := (bn3614, bn3928)
noncomputable def h_b598_7 : ev_H := (bn3929 : e2_Q8)
def bn3930 : e2_Q7 := (bn3911, bn3707)
def bn3931 : e2_Q8 := (bn3614, bn3930)
noncomputable def h_b598_8 : ev_H := (bn3931 : e2_Q8)
def bn3932 : e2_Q7 := (bn3911, bn3715)
def bn3933 : e2_Q8 := (bn3614, bn3932)
noncomputable def h_b598_9 : ev_H := (bn3933 : e2_Q8)
def bn3934 : e2_Q7 := (bn3911, bn3723)
def bn3935 : e2_Q8 := (bn3614, bn3934)
noncomputable def h_b598_10 : ev_H := (bn3935 : e2_Q8)
def bn3936 : e2_Q7 := (bn3911, bn3731)
def bn3937 : e2_Q8 := (bn3614, bn3936)
noncomputable def h_b598_11 : ev_H := (bn3937 : e2_Q8)
def bn3938 : e2_Q7 := (bn3911, bn3739)
def bn3939 : e2_Q8 := (bn3614, bn3938)
noncomputable def h_b598_12 : ev_H := (bn3939 : e2_Q8)
def bn3940 : e2_Q7 := (bn3911, bn3747)
def bn3941 : e2_Q8 := (bn3614, bn3940)
noncomputable def h_b598_13 : ev_H := (bn3941 : e2_Q8)
def bn3942 : e2_Q7 := (bn3911, bn3755)
def bn3943 : e2_Q8 := (bn3614, bn3942)
noncomputable def h_b598_14 : ev_H := (bn3943 : e2_Q8)
def bn3944 : e2_Q7 := (bn3911, bn3763)
def bn3945 : e2_Q8 := (bn3614, bn3944)
noncomputable def h_b598_15 : ev_H := (bn3945 : e2_Q8)
def bn3946 : e2_Q7 := (bn3911, bn3771)
def bn3947 : e2_Q8 := (bn3614, bn3946)
noncomputable def h_b598_16 : ev_H := (bn3947 : e2_Q8)
def bn3948 : e2_Q7 := (bn3911, bn3779)
def bn3949 : e2_Q8 := (bn3614, bn3948)
noncomputable def h_b598_17 : ev_H := (bn3949 : e2_Q8)
def bn3950 : e2_Q7 := (bn3911, bn3787)
def bn3951 : e2_Q8 := (bn3614, bn3950)
noncomputable def h_b598_18 : ev_H := (bn3951 : e2_Q8)
def bn3952 : e2_Q7 := (bn3911, bn3795)
def bn3953 : e2_Q8 := (bn3614, bn3952)
noncomputable def h_b598_19 : ev_H := (bn3953 : e2_Q8)
noncomputable def h_b598_20 : ev_H := (bn3913 : e2_Q8)
def bn3954 : e2_Q7 := (bn3911, bn3803)
def bn3955 : e2_Q8 := (bn3614, bn3954)
noncomputable def h_b598_21 : ev_H := (bn3955 : e2_Q8)
noncomputable def h_b598_22 : ev_H := (bn3955 : e2_Q8)
noncomputable def h_b598_23 : ev_H := (bn3955 : e2_Q8)
noncomputable def h_b598_24 : ev_H := (bn3955 : e2_Q8)
noncomputable def h_b598_25 : ev_H := (bn3955 : e2_Q8)
noncomputable def cu_b598_120 : List e2_Cu := [([(2, 83, 0), (11, 0, 4294967295), (0, 0, 0), (0, 8, 0), (9, 0, 0)], [(2147483648, 2147583648, 0, 0), (2147483652, 2147483652, 1, 0)], h_b598_0),
  ([(2, 83, 0), (11, 0, 4294967295), (0, 1, 0), (11, 2147483648, 2147483656), (11, 2147483647, 2147483651)], [(2147483648, 2147583648, 0, 0), (2147483652, 2147483652, 1, 0)], h_b598_1),
  ([(2, 83, 0), (11, 0, 4294967295), (0, 2, 0), (11, 2147483648, 2147483656), (11, 2147483647, 2147483651)], [(2147483648, 2147583648, 0, 0), (2147483652, 2147483652, 1, 0)], h_b598_2),
  ([(2, 83, 0), (11, 0, 4294967295), (0, 3, 0), (11, 2147483648, 2147483656), (11, 2147483647, 2147483651)], [(2147483648, 2147583648, 0, 0), (2147483652, 2147483652, 1, 0)], h_b598_3),
  ([(2, 83, 0), (11, 0, 4294967295), (0, 4, 0), (11, 2147483648, 2147483656), (11, 2147483647, 2147483651)], [(2147483648, 2147583648, 0, 0), (2147483652, 2147483652, 1, 0)], h_b598_4),
  ([(2, 83, 0), (11, 0, 4294967295), (0, 5, 0), (11, 2147483648, 2147483656), (11, 2147483647, 2147483651)], [(2147483648, 2147583648, 0, 0), (2147483652, 2147483652, 1, 0)], h_b598_5),
  ([(2, 83, 0), (11, 0, 4294967295), (0, 6, 0), (11, 2147483648, 2147483656), (11, 2147483647, 2147483651)], [(2147483648, 2147583648, 0, 0), (2147483652, 2147483652, 1, 0)], h_b598_6),
  ([(2, 83, 0), (11, 0, 4294967295), (0, 7, 0), (11, 2147483648, 2147483656), (11, 2147483647, 2147483651)], [(2147483648, 2147583648, 0, 0), (2147483652, 2147483652, 1, 0)], h_b598_7),
  ([(2, 83, 0), (11, 0, 4294967295), (0, 8, 0), (11, 2147483648, 2147483656), (11, 2147483647, 2147483651)], [(2147483648, 2147583648, 0, 0), (2147483652, 2147483652, 1, 0)], h_b598_8),
  ([(2, 83, 0), (11, 0, 4294967295), (0, 9, 0), (11, 2147483648, 2147483656), (11, 2147483647, 2147483651)], [(2147483648, 2147583648, 0, 0), (2147483652, 2147483652, 1, 0)], h_b598_9),
  ([(2, 83, 0), (11, 0, 4294967295), (0, 10, 0), (11, 2147483648, 2147483656), (11, 2147483647, 2147483651)], [(2147483648, 2147583648, 0, 0), (2147483652, 2147483652, 1, 0)], h_b598_10),
  ([(2, 83, 0), (11, 0, 4294967295), (0, 11, 0), (11, 2147483648, 2147483656), (11, 2147483647, 2147483651)], [(2147483648, 2147583648, 0, 0), (2147483652, 2147483652, 1, 0)], h_b598_11),
  ([(2, 83, 0), (11, 0, 4294967295), (0, 12, 0), (11, 2147483648, 2147483656), (11, 2147483647, 2147483651)], [(2147483648, 2147583648, 0, 0), (2147483652, 2147483652, 1, 0)], h_b598_12),
  ([(2, 83, 0), (11, 0, 4294967295), (0, 13, 0), (11, 2147483648, 2147483656), (11, 2147483647, 2147483651)], [(2147483648, 2147583648, 0, 0), (2147483652, 2147483652, 1, 0)], h_b598_13),
  ([(2, 83, 0), (11, 0, 4294967295), (0, 14, 0), (11, 2147483648, 2147483656), (11, 2147483647, 2147483651)], [(2147483648, 2147583648, 0, 0), (2147483652, 2147483652, 1, 0)], h_b598_14),
  ([(2, 83, 0), (11, 0, 4294967295), (0, 15, 0), (11, 2147483648, 2147483656), (11, 2147483647, 2147483651)], [(2147483648, 2147583648, 0, 0), (2147483652, 2147483652, 1, 0)], h_b598_15),
  ([(2, 83, 0), (11, 0, 4294967295), (0, 16, 0), (11, 2147483648, 2147483656), (11, 2147483647, 2147483651)], [(2147483648, 2147583648, 0, 0), (2147483652, 2147483652, 1, 0)], h_b598_16),
  ([(2, 83, 0), (11, 0, 4294967295), (0, 17, 0), (11, 2147483648, 2147483656), (11, 2147483647, 2147483651)], [(2147483648, 2147583648, 0, 0), (2147483652, 2147483652, 1, 0)], h_b598_17),
  ([(2, 83, 0), (11, 0, 4294967295), (0, 18, 0), (11, 2147483648, 2147483656), (11, 2147483647, 2147483651)], [(2147483648, 2147583648, 0, 0), (2147483652, 2147483652, 1, 0)], h_b598_18),
  ([(2, 83, 0), (11, 0, 4294967295), (0, 19, 0), (11, 2147483648, 2147483656), (11, 2147483647, 2147483651)], [(2147483648, 2147583648, 0, 0), (2147483652, 2147483652, 1, 0)], h_b598_19),
  ([(2, 83, 0), (11, 0, 4294967295), (0, 20, 0), (11, 2147483648, 2147483656), (11, 2147483647, 2147483651)], [(2147483648, 2147583648, 0, 0), (2147483652, 2147483652, 1, 0)], h_b598_20),
  ([(2, 83, 0), (11, 0, 4294967295), (0, 21, 0), (11, 2147483648, 2147483651), (11, 2147483648, 2147483651)], [(2147483648, 2147583648, 0, 0), (2147483652, 2147483652, 1, 0)], h_b598_21),
  ([(2, 83, 0), (11, 0, 4294967295), (0, 22, 0), (11, 2147483648, 2147483651), (11, 2147483648, 2147483651)], [(2147483648, 2147583648, 0, 0), (2147483652, 2147483652, 1, 0)], h_b598_22),
  ([(2, 83, 0), (11, 0, 4294967295), (0, 23, 0), (11, 2147483648, 2147483651), (11, 2147483648, 2147483651)], [(2147483648, 2147583648, 0, 0), (2147483652, 2147483652, 1, 0)], h_b598_23),
  ([(2, 83, 0), (11, 0, 4294967295), (0, 24, 0), (11, 2147483648, 2147483651), (11, 2147483648, 2147483651)], [(2147483648, 2147583648, 0, 0), (2147483652, 2147483652, 1, 0)], h_b598_24),
  ([(2, 83, 0), (11, 0, 4294967295), (0, 25, 0), (11, 2147483648, 2147483651), (11, 2147483648, 2147483651)], [(2147483648, 2147583648, 0, 0), (2147483652, 2147483652, 1, 0)], h_b598_25)]
noncomputable def cl_b598_e : List (Nat × e2_S) := [(2, e2_cutL (al_b598_26.set 2 (11, 2147483648, 2147483657)) 2 (E_b598_26.take 2) h_b598_26)]
set_option maxRecDepth 1000000 in
theorem ck_b598_e : e2_run (e2_orG 231 83 11 2 2147483648 2147483668 as_b593 Eb_b593 f_b593 rs_b593 (e2_orG 231 83 11 2 2147483648 2147483668 as_b592 Eb_b592 f_b592 rs_b592 (e2_orG 231 83 11 2 2147483648 2147483668 as_b591 Eb_b591 f_b591 rs_b591 (e2_orG 231 83 11 2 2147483648 2147483668 as_b590 Eb_b590 f_b590 rs_b590 (e2_orG 231 83 11 2 2147483648 2147483668 as_b589 Eb_b589 f_b589 rs_b589 (e2_orG 231 83 11 2 2147483648 2147483668 as_b588 Eb_b588 f_b588 rs_b588 (e2_orG 231 83 11 2 2147483648 2147483668 as_b587 Eb_b587 f_b587 rs_b587 (e2_orG 231 83 11 2 2147483648 2147483668 as_b586 Eb_b586 f_b586 rs_b586 (e2_orG 231 83 11 2 2147483648 2147483668 as_b585 Eb_b585 f_b585 rs_b585 (e2_orG 231 83 11 2 2147483648 2147483668 as_b584 Eb_b584 f_b584 rs_b584 (e2_orG 231 83 11 2 2147483648 2147483668 as_b583 Eb_b583 f_b583 rs_b583 (e2_orG 231 83 11 2 2147483648 2147483668 as_b582 Eb_b582 f_b582 rs_b582 (e2_orG 231 83 11 2 2147483648 2147483668 as_b581 Eb_b581 f_b581 rs_b581 (e2_orG 231 83 11 2 2147483648 2147483668 as_b580 Eb_b580 f_b580 rs_b580 (e2_orG 231 83 11 2 2147483648 2147483668 as_b579 Eb_b579 f_b579 rs_b579 (e2_orG 231 83 11 2 2147483648 2147483668 as_b578 Eb_b578 f_b578 rs_b578 (e2_orG 231 83 11 2 2147483648 2147483668 as_b577 Eb_b577 f_b577 rs_b577 (e2_orG 231 83 11 2 2147483648 2147483668 as_b576 Eb_b576 f_b576 rs_b576 (e2_orG 231 83 11 2 2147483648 2147483668 as_b575 Eb_b575 f_b575 rs_b575 (e2_orG 231 83 11 2 2147483648 2147483668 as_b574 Eb_b574 f_b574 rs_b574 (e2_cal S_b598 I_b598 4000 1))))))))))))))))))))) (e2_fin rs_b598) e2x_230 (e2_bpL cl_b598_e) (e2_cutA cl_b598_e) 4000 (e2_seek e2x_230 0) (e2_al 5 as_b598) [] E_b598 f_b598 = true := by decide +kernel
noncomputable def cl_b598_26 : List (Nat × e2_S) := [(2, e2_cutL (al_b598_26.set 2 (13, 10, 2147483657)) 2 (E_b598_26.take 2) h_b598_26),
  (49, e2_cutL (al_b598_27.set 2 (11, 2147483647, 2147483667)) 2 (E_b598_27.take 2) h_b598_27)]
set_option maxRecDepth 1000000 in
theorem ck_b598_26 : e2_runM (e2_orG 231 83 11 2 2147483648 2147483668 as_b593 Eb_b593 f_b593 rs_b593 (e2_orG 231 83 11 2 2147483648 2147483668 as_b592 Eb_b592 f_b592 rs_b592 (e2_orG 231 83 11 2 2147483648 2147483668 as_b591 Eb_b591 f_b591 rs_b591 (e2_orG 231 83 11 2 2147483648 2147483668 as_b590 Eb_b590 f_b590 rs_b590 (e2_orG 231 83 11 2 2147483648 2147483668 as_b589 Eb_b589 f_b589 rs_b589 (e2_orG 231 83 11 2 2147483648 2147483668 as_b588 Eb_b588 f_b588 rs_b588 (e2_orG 231 83 11 2 2147483648 2147483668 as_b587 Eb_b587 f_b587 rs_b587 (e2_orG 231 83 11 2 2147483648 2147483668 as_b586 Eb_b586 f_b586 rs_b586 (e2_orG 231 83 11 2 2147483648 2147483668 as_b585 Eb_b585 f_b585 rs_b585 (e2_orG 231 83 11 2 2147483648 2147483668 as_b584 Eb_b584 f_b584 rs_b584 (e2_orG 231 83 11 2 2147483648 2147483668 as_b583 Eb_b583 f_b583 rs_b583 (e2_orG 231 83 11 2 2147483648 2147483668 as_b582 Eb_b582 f_b582 rs_b582 (e2_orG 231 83 11 2 2147483648 2147483668 as_b581 Eb_b581 f_b581 rs_b581 (e2_orG 231 83 11 2 2147483648 2147483668 as_b580 Eb_b580 f_b580 rs_b580 (e2_orG 231 83 11 2 2147483648 2147483668 as_b579 Eb_b579 f_b579 rs_b579 (e2_orG 231 83 11 2 2147483648 2147483668 as_b578 Eb_b578 f_b578 rs_b578 (e2_orG 231 83 11 2 2147483648 2147483668 as_b577 Eb_b577 f_b577 rs_b577 (e2_orG 231 83 11 2 2147483648 2147483668 as_b576 Eb_b576 f_b576 rs_b576 (e2_orG 231 83 11 2 2147483648 2147483668 as_b575 Eb_b575 f_b575 rs_b575 (e2_orG 231 83 11 2 2147483648 2147483668 as_b574 Eb_b574 f_b574 rs_b574 (e2_cal S_b598 I_b598 4000 1))))))))))))))))))))) (e2_fin rs_b598) e2x_230 (e2_bpL cl_b598_26) (e2_cutA cl_b598_26) 4000 (e2_seek e2x_230 2) al_b598_26 [] E_b598_26 h_b598_26 = true := by decide +kernel
set_option maxRecDepth 1000000 in
theorem ci_b598_26 : e2_idl 2 (al_b598_26.set 2 (9, 0, 0)) = true := by decide +kernel
set_option maxRecDepth 1000000 in
theorem cj_b598_26 : e2_idh 2 8 h_b598_26 = true := by decide +kernel
noncomputable def cl_b598_27 : List (Nat × e2_S) := [(120, e2_cutS cu_b598_120),
  (55, e2_cutL (al_b598_28.set 3 (11, 2147483648, 2147483657)) 3 (E_b598_28.take 3) h_b598_28)]
set_option maxRecDepth 1000000 in
theorem ck_b598_27 : e2_runM (e2_orG 231 83 11 2 2147483648 2147483668 as_b593 Eb_b593 f_b593 rs_b593 (e2_orG 231 83 11 2 2147483648 2147483668 as_b592 Eb_b592 f_b592 rs_b592 (e2_orG 231 83 11 2 2147483648 2147483668 as_b591 Eb_b591 f_b591 rs_b591 (e2_orG 231 83 11 2 2147483648 2147483668 as_b590 Eb_b590 f_b590 rs_b590 (e2_orG 231 83 11 2 2147483648 2147483668 as_b589 Eb_b589 f_b589 rs_b589 (e2_orG 231 83 11 2 2147483648 2147483668 as_b588 Eb_b588 f_b588 rs_b588 (e2_orG 231 83 11 2 2147483648 2147483668 as_b587 Eb_b587 f_b587 rs_b587 (e2_orG 231 83 11 2 2147483648 2147483668 as_b586 Eb_b586 f_b586 rs_b586 (e2_orG 231 83 11 2 2147483648 2147483668 as_b585 Eb_b585 f_b585 rs_b585 (e2_orG 231 83 11 2 2147483648 2147483668 as_b584 Eb_b584 f_b584 rs_b584 (e2_orG 231 83 11 2 2147483648 2147483668 as_b583 Eb_b583 f_b583 rs_b583 (e2_orG 231 83 11 2 2147483648 2147483668 as_b582 Eb_b582 f_b582 rs_b582 (e2_orG 231 83 11 2 2147483648 2147483668 as_b581 Eb_b581 f_b581 rs_b581 (e2_orG 231 83 11 2 2147483648 2147483668 as_b580 Eb_b580 f_b580 rs_b580 (e2_orG 231 83 11 2 2147483648 2147483668 as_b579 Eb_b579 f_b579 rs_b579 (e2_orG 231 83 11 2 2147483648 2147483668 as_b578 Eb_b578 f_b578 rs_b578 (e2_orG 231 83 11 2 2147483648 2147483668 as_b577 Eb_b577 f_b577 rs_b577 (e2_orG 231 83 11 2 2147483648 2147483668 as_b576 Eb_b576 f_b576 rs_b576 (e2_orG 231 83 11 2 2147483648 2147483668 as_b575 Eb_b575 f_b575 rs_b575 (e2_orG 231 83 11 2 2147483648 2147483668 as_b574 Eb_b574 f_b574 rs_b574 (e2_cal S_b598 I_b598 4000 1))))))))))))))))))))) (e2_fin rs_b598) e2x_230 (e2_bpL cl_b598_27) (e2_cutA cl_b598_27) 4000 (e2_seek e2x_230 49) al_b598_27 [] E_b598_27 h_b598_27 = true := by decide +kernel
set_option maxRecDepth 1000000 in
theorem ci_b598_27 : e2_idl 2 (al_b598_27.set 2 (9, 0, 0)) = true := by decide +kernel
set_option maxRecDepth 1000000 in
theorem cj_b598_27 : e2_idh 2 8 h_b598_27 = true := by decide +kernel
noncomputable def cl_b598_28 : List (Nat × e2_S) := [(49, e2_cutL (al_b598_27.set 2 (12, 10, 2147483647)) 2 (E_b598_27.take 2) h_b598_27),
  (55, e2_cutL (al_b598_28.set 3 (13, 11, 2147483657)) 3 (E_b598_28.take 3) h_b598_28)]
set_option maxRecDepth 1000000 in
theorem ck_b598_28 : e2_runM (e2_orG 231 83 11 2 2147483648 2147483668 as_b593 Eb_b593 f_b593 rs_b593 (e2_orG 231 83 11 2 2147483648 2147483668 as_b592 Eb_b592 f_b592 rs_b592 (e2_orG 231 83 11 2 2147483648 2147483668 as_b591 Eb_b591 f_b591 rs_b591 (e2_orG 231 83 11 2 2147483648 2147483668 as_b590 Eb_b590 f_b590 rs_b590 (e2_orG 231 83 11 2 2147483648 2147483668 as_b589 Eb_b589 f_b589 rs_b589 (e2_orG 231 83 11 2 2147483648 2147483668 as_b588 Eb_b588 f_b588 rs_b588 (e2_orG 231 83 11 2 2147483648 2147483668 as_b587 Eb_b587 f_b587 rs_b587 (e2_orG 231 83 11 2 2147483648 2147483668 as_b586 Eb_b586 f_b586 rs_b586 (e2_orG 231 83 11 2 2147483648 2147483668 as_b585 Eb_b585 f_b585 rs_b585 (e2_orG 231 83 11 2 2147483648 2147483668 as_b584 Eb_b584 f_b584 rs_b584 (e2_orG 231 83 11 2 2147483648 2147483668 as_b583 Eb_b583 f_b583 rs_b583 (e2_orG 231 83 11 2 2147483648 2147483668 as_b582 Eb_b582 f_b582 rs_b582 (e2_orG 231 83 11 2 2147483648 2147483668 as_b581 Eb_b581 f_b581 rs_b581 (e2_orG 231 83 11 2 2147483648 2147483668 as_b580 Eb_b580 f_b580 rs_b580 (e2_orG 231 83 11 2 2147483648 2147483668 as_b579 Eb_b579 f_b579 rs_b579 (e2_orG 231 83 11 2 2147483648 2147483668 as_b578 Eb_b578 f_b578 rs_b578 (e2_orG 231 83 11 2 2147483648 2147483668 as_b577 Eb_b577 f_b577 rs_b577 (e2_orG 231 83 11 2 2147483648 2147483668 as_b576 Eb_b576 f_b576 rs_b576 (e2_orG 231 83 11 2 2147483648 2147483668 as_b575 Eb_b575 f_b575 rs_b575 (e2_orG 231 83 11 2 2147483648 2147483668 as_b574 Eb_b574 f_b574 rs_b574 (e2_cal S_b598 I_b598 4000 1))))))))))))))))))))) (e2_fin rs_b598) e2x_230 (e2_bpL cl_b598_28) (e2_cutA cl_b598_28) 4000 (e2_seek e2x_230 55) al_b598_28 [] E_b598_28 h_b598_28 = true := by decide +kernel
set_option maxRecDepth 1000000 in
theorem ci_b598_28 : e2_idl 3 (al_b598_28.set 3 (9, 0, 0)) = true := by decide +kernel
set_option maxRecDepth 1000000 in
theorem cj_b598_28 : e2_idh 3 8 h_b598_28 = true := by decide +kernel
set_option maxRecDepth 1000000 in
theorem ck_b598_u120 : e2_cutsB (e2_orG 231 83 11 2 2147483648 2147483668 as_b593 Eb_b593 f_b593 rs_b593 (e2_orG 231 83 11 2 2147483648 2147483668 as_b592 Eb_b592 f_b592 rs_b592 (e2_orG 231 83 11 2 2147483648 2147483668 as_b591 Eb_b591 f_b591 rs_b591 (e2_orG 231 83 11 2 2147483648 2147483668 as_b590 Eb_b590 f_b590 rs_b590 (e2_orG 231 83 11 2 2147483648 2147483668 as_b589 Eb_b589 f_b589 rs_b589 (e2_orG 231 83 11 2 2147483648 2147483668 as_b588 Eb_b588 f_b588 rs_b588 (e2_orG 231 83 11 2 2147483648 2147483668 as_b587 Eb_b587 f_b587 rs_b587 (e2_orG 231 83 11 2 2147483648 2147483668 as_b586 Eb_b586 f_b586 rs_b586 (e2_orG 231 83 11 2 2147483648 2147483668 as_b585 Eb_b585 f_b585 rs_b585 (e2_orG 231 83 11 2 2147483648 2147483668 as_b584 Eb_b584 f_b584 rs_b584 (e2_orG 231 83 11 2 2147483648 2147483668 as_b583 Eb_b583 f_b583 rs_b583 (e2_orG 231 83 11 2 2147483648 2147483668 as_b582 Eb_b582 f_b582 rs_b582 (e2_orG 231 83 11 2 2147483648 2147483668 as_b581 Eb_b581 f_b581 rs_b581 (e2_orG 231 83 11 2 2147483648 2147483668 as_b580 Eb_b580 f_b580 rs_b580 (e2_orG 231 83 11 2 2147483648 2147483668 as_b579 Eb_b579 f_b579 rs_b579 (e2_orG 231 83 11 2 2147483648 2147483668 as_b578 Eb_b578 f_b578 rs_b578 (e2_orG 231 83 11 2 2147483648 2147483668 as_b577 Eb_b577 f_b577 rs_b577 (e2_orG 231 83 11 2 2147483648 2147483668 as_b576 Eb_b576 f_b576 rs_b576 (e2_orG 231 83 11 2 2147483648 2147483668 as_b575 Eb_b575 f_b575 rs_b575 (e2_orG 231 83 11 2 2147483648 2147483668 as_b574 Eb_b574 f_b574 rs_b574 (e2_cal S_b598 I_b598 4000 1))))))))))))))))))))) (e2_fin rs_b598) e2x_230 120 4000 cu_b598_120 = true := by decide +kernel
set_option maxRecDepth 1000000 in
theorem cs_b598 (hen : en_ok) (l : Launch) : e2_smOk l 5 s_b598 := by
  refine e2_conC (H := 4) (C := evd_230) (call := (e2_orG 231 83 11 2 2147483648 2147483668 as_b593 Eb_b593 f_b593 rs_b593 (e2_orG 231 83 11 2 2147483648 2147483668 as_b592 Eb_b592 f_b592 rs_b592 (e2_orG 231 83 11 2 2147483648 2147483668 as_b591 Eb_b591 f_b591 rs_b591 (e2_orG 231 83 11 2 2147483648 2147483668 as_b590 Eb_b590 f_b590 rs_b590 (e2_orG 231 83 11 2 2147483648 2147483668 as_b589 Eb_b589 f_b589 rs_b589 (e2_orG 231 83 11 2 2147483648 2147483668 as_b588 Eb_b588 f_b588 rs_b588 (e2_orG 231 83 11 2 2147483648 2147483668 as_b587 Eb_b587 f_b587 rs_b587 (e2_orG 231 83 11 2 2147483648 2147483668 as_b586 Eb_b586 f_b586 rs_b586 (e2_orG 231 83 11 2 2147483648 2147483668 as_b585 Eb_b585 f_b585 rs_b585 (e2_orG 231 83 11 2 2147483648 2147483668 as_b584 Eb_b584 f_b584 rs_b584 (e2_orG 231 83 11 2 2147483648 2147483668 as_b583 Eb_b583 f_b583 rs_b583 (e2_orG 231 83 11 2 2147483648 2147483668 as_b582 Eb_b582 f_b582 rs_b582 (e2_orG 231 83 11 2 2147483648 2147483668 as_b581 Eb_b581 f_b581 rs_b581 (e2_orG 231 83 11 2 2147483648 2147483668 as_b580 Eb_b580 f_b580 rs_b580 (e2_orG 231 83 11 2 2147483648 2147483668 as_b579 Eb_b579 f_b579 rs_b579 (e2_orG 231 83 11 2 2147483648 2147483668 as_b578 Eb_b578 f_b578 rs_b578 (e2_orG 231 83 11 2 2147483648 2147483668 as_b577 Eb_b577 f_b577 rs_b577 (e2_orG 231 83 11 2 2147483648 2147483668 as_b576 Eb_b576 f_b576 rs_b576 (e2_orG 231 83 11 2 2147483648 2147483668 as_b575 Eb_b575 f_b575 rs_b575 (e2_orG 231 83 11 2 2147483648 2147483668 as_b574 Eb_b574 f_b574 rs_b574 (e2_cal S_b598 I_b598 4000 1)))))))))))))))))))))) ei_230 (fun d hd => (e2_orG_ok (k0 := 231) (a := 83) (j := 11) (n := 2) (lo := 2147483648) (hi := 2147483668) (as0 := as_b593) (Eb := Eb_b593) (f := f_b593) (res := rs_b593) (e2_orG_ok (k0 := 231) (a := 83) (j := 11) (n := 2) (lo := 2147483648) (hi := 2147483668) (as0 := as_b592) (Eb := Eb_b592) (f := f_b592) (res := rs_b592) (e2_orG_ok (k0 := 231) (a := 83) (j := 11) (n := 2) (lo := 2147483648) (hi := 2147483668) (as0 := as_b591) (Eb := Eb_b591) (f := f_b591) (res := rs_b591) (e2_orG_ok (k0 := 231) (a := 83) (j := 11) (n := 2) (lo := 2147483648) (hi := 2147483668) (as0 := as_b590) (Eb := Eb_b590) (f := f_b590) (res := rs_b590) (e2_orG_ok (k0 := 231) (a := 83) (j := 11) (n := 2) (lo := 2147483648) (hi := 2147483668) (as0 := as_b589) (Eb := Eb_b589) (f := f_b589) (res := rs_b589) (e2_orG_ok (k0 := 231) (a := 83) (j := 11) (n := 2) (lo := 2147483648) (hi := 2147483668) (as0 := as_b588) (Eb := Eb_b588) (f := f_b588) (res := rs_b588) (e2_orG_ok (k0 := 231) (a := 83) (j := 11) (n := 2) (lo := 2147483648) (hi := 2147483668) (as0 := as_b587) (Eb := Eb_b587) (f := f_b587) (res := rs_b587) (e2_orG_ok (k0 := 231) (a := 83) (j := 11) (n := 2) (lo := 2147483648) (hi := 2147483668) (as0 := as_b586) (Eb := Eb_b586) (f := f_b586) (res := rs_b586) (e2_orG_ok (k0 := 231) (a := 83) (j := 11) (n := 2) (lo := 2147483648) (hi := 2147483668) (as0 := as_b585) (Eb := Eb_b585) (f := f_b585) (res := rs_b585) (e2_orG_ok (k0 := 231) (a := 83) (j := 11) (n := 2) (lo := 2147483648) (hi := 2147483668) (as0 := as_b584) (Eb := Eb_b584) (f := f_b584) (res := rs_b584) (e2_orG_ok (k0 := 231) (a := 83) (j := 11) (n := 2) (lo := 2147483648) (hi := 2147483668) (as0 := as_b583) (Eb := Eb_b583) (f := f_b583) (res := rs_b583) (e2_orG_ok (k0 := 231) (a := 83) (j := 11) (n := 2) (lo := 2147483648) (hi := 2147483668) (as0 := as_b582) (Eb := Eb_b582) (f := f_b582) (res := rs_b582) (e2_orG_ok (k0 := 231) (a := 83) (j := 11) (n := 2) (lo := 2147483648) (hi := 2147483668) (as0 := as_b581) (Eb := Eb_b581) (f := f_b581) (res := rs_b581) (e2_orG_ok (k0 := 231) (a := 83) (j := 11) (n := 2) (lo := 2147483648) (hi := 2147483668) (as0 := as_b580) (Eb := Eb_b580) (f := f_b580) (res := rs_b580) (e2_orG_ok (k0 := 231) (a := 83) (j := 11) (n := 2) (lo := 2147483648) (hi := 2147483668) (as0 := as_b579) (Eb := Eb_b579) (f := f_b579) (res := rs_b579) (e2_orG_ok (k0 := 231) (a := 83) (j := 11) (n := 2) (lo := 2147483648) (hi := 2147483668) (as0 := as_b578) (Eb := Eb_b578) (f := f_b578) (res := rs_b578) (e2_orG_ok (k0 := 231) (a := 83) (j := 11) (n := 2) (lo := 2147483648) (hi := 2147483668) (as0 := as_b577) (Eb := Eb_b577) (f := f_b577) (res := rs_b577) (e2_orG_ok (k0 := 231) (a := 83) (j := 11) (n := 2) (lo := 2147483648) (hi := 2147483668) (as0 := as_b576) (Eb := Eb_b576) (f := f_b576) (res := rs_b576) (e2_orG_ok (k0 := 231) (a := 83) (j := 11) (n := 2) (lo := 2147483648) (hi := 2147483668) (as0 := as_b575) (Eb := Eb_b575) (f := f_b575) (res := rs_b575) (e2_orG_ok (k0 := 231) (a := 83) (j := 11) (n := 2) (lo := 2147483648) (hi := 2147483668) (as0 := as_b574) (Eb := Eb_b574) (f := f_b574) (res := rs_b574) (e2_cal_ok hen (e2_fa (cs_b554 hen l) (e2_fa (cs_b555 hen l) (e2_fa (cs_b556 hen l) (e2_fa (cs_b557 hen l) (e2_fa (cs_b558 hen l) (e2_fa (cs_b559 hen l) (e2_fa (cs_b560 hen l) (e2_fa (cs_b561 hen l) (e2_fa (cs_b562 hen l) (e2_fa (cs_b563 hen l) (e2_fa (cs_b564 hen l) (e2_fa (cs_b565 hen l) (e2_fa (cs_b566 hen l) (e2_fa (cs_b567 hen l) (e2_fa (cs_b568 hen l) (e2_fa (cs_b569 hen l) (e2_fa (cs_b570 hen l) (e2_fa (cs_b571 hen l) (e2_fa (cs_b572 hen l) (e2_fa (cs_b573 hen l) e2_fz)))))))))))))))))))) (e2_fa ein_216 (e2_fa ein_217 (e2_fa ein_227 e2_fz))) 1 d (by omega)) rfl (by decide +kernel) (fun M hM => (cs_b574 hen l).2 M hM d (by omega)) (e2_okGB_ok cog_b574)) rfl (by decide +kernel) (fun M hM => (cs_b575 hen l).2 M hM d (by omega)) (e2_okGB_ok cog_b575)) rfl (by decide +kernel) (fun M hM => (cs_b576 hen l).2 M hM d (by omega)) (e2_okGB_ok cog_b576)) rfl (by decide +kernel) (fun M hM => (cs_b577 hen l).2 M hM d (by omega)) (e2_okGB_ok cog_b577)) rfl (by decide +kernel) (fun M hM => (cs_b578 hen l).2 M hM d (by omega)) (e2_okGB_ok cog_b578)) rfl (by decide +kernel) (fun M hM => (cs_b579 hen l).2 M hM d (by omega)) (e2_okGB_ok cog_b579)) rfl (by decide +kernel) (fun M hM => (cs_b580 hen l).2 M hM d (by omega)) (e2_okGB_ok cog_b580)) rfl (by decide +kernel) (fun M hM => (cs_b581 hen l).2 M hM d (by omega)) (e2_okGB_ok cog_b581)) rfl (by decide +kernel) (fun M hM => (cs_b582 hen l).2 M hM d (by omega)) (e2_okGB_ok cog_b582)) rfl (by decide +kernel) (fun M hM => (cs_b583 hen l).2 M hM d (by omega)) (e2_okGB_ok cog_b583)) rfl (by decide +kernel) (fun M hM => (cs_b584 hen l).2 M hM d (by omega)) (e2_okGB_ok cog_b584)) rfl (by decide +kernel) (fun M hM => (cs_b585 hen l).2 M hM d (by omega)) (e2_okGB_ok cog_b585)) rfl (by decide +kernel) (fun M hM => (cs_b586 hen l).2 M hM d (by omega)) (e2_okGB_ok cog_b586)) rfl (by decide +kernel) (fun M hM => (cs_b587 hen l).2 M hM d (by omega)) (e2_okGB_ok cog_b587)) rfl (by decide +kernel) (fun M hM => (cs_b588 hen l).2 M hM d (by omega)) (e2_okGB_ok cog_b588)) rfl (by decide +kernel) (fun M hM => (cs_b589 hen l).2 M hM d (by omega)) (e2_okGB_ok cog_b589)) rfl (by decide +kernel) (fun M hM => (cs_b590 hen l).2 M hM d (by omega)) (e2_okGB_ok cog_b590)) rfl (by decide +kernel) (fun M hM => (cs_b591 hen l).2 M hM d (by omega)) (e2_okGB_ok cog_b591)) rfl (by decide +kernel) (fun M hM => (cs_b592 hen l).2 M hM d (by omega)) (e2_okGB_ok cog_b592)) rfl (by decide +kernel) (fun M hM => (cs_b593 hen l).2 M hM d (by omega)) (e2_okGB_ok cog_b593))) (by decide) co_b598 fun M d _ hC hcall p e R s m args below meth c Q D cA A ads r0 ha hl0 => ?_
  have EN_120 := e2_cutS_ok (bp := 120) (cuts := cu_b598_120) (e2_cuts_len hl0 (by decide +kernel)) (e2_cuts_ok hen ha hcall (hC [76, 192, 195]) (X := e2x_230) ex2_230 (e2_cuts_len hl0 (by decide +kernel)) ck_b598_u120)
  have L_27 : e2_gdM M p l e R s m args below meth c Q D cA A ads r0 49 al_b598_27 [] E_b598_27 h_b598_27 := by
    refine e2_indD (u := 2) (j := 2) (lo := 2147483647) (hi := 2147483667) hl0 (by decide) rfl rfl rfl ci_b598_27 cj_b598_27 ?_
    intro r_27 k_27 hk_27 hp_27 hs_27 hn_27
    have hl_27 : r_27.length ≤ 3 := hs_27.len rfl
    have ha_27 := ha.ext hp_27
    have L_28 : e2_gdM M p l e R s m args below meth c Q D cA A ads r_27 55 al_b598_28 [] E_b598_28 h_b598_28 := by
      refine e2_indL (u := 3) (j := 3) (lo := 2147483648) (hi := 2147483657) (b := 3) (dd := 0) hl_27 (by decide) rfl rfl (Or.inr ⟨rfl, rfl⟩) rfl ci_b598_28 cj_b598_28 ?_
      intro r_28 k_28 hk_28 hp_28 hs_28 hn_28
      have hl_28 : r_28.length ≤ 4 := hs_28.len rfl
      have ha_28 := ha_27.ext hp_28
      exact e2_fromM hen ha_28 hcall (e2_cutA_ok (e2_fa (fun al st E h hc => (hn_27 al st E h hc).ext hp_28) (e2_fa (fun al st E h hc => hn_28 al st E h hc) e2_fz))) (hC [76, 192, 195]) (X := e2x_230) ex2_230 55 ck_b598_28
    have EN_28 := e2_entL (u := 3) (j := 3) (lo := 2147483648) (hi := 2147483657) hl_27 rfl rfl rfl ci_b598_28 cj_b598_28 L_28
    exact e2_fromM hen ha_27 hcall (e2_cutA_ok (e2_fa (fun al st E h hc => (EN_120 al st E h hc).ext hp_27) (e2_fa (fun al st E h hc => EN_28 al st E h hc) e2_fz))) (hC [76, 192, 195]) (X := e2x_230) ex2_230 49 ck_b598_27
  have EN_27 := e2_entL (u := 2) (j := 2) (lo := 2147483647) (hi := 2147483667) hl0 rfl rfl rfl ci_b598_27 cj_b598_27 L_27
  have L_26 : e2_gdM M p l e R s m args below meth c Q D cA A ads r0 2 al_b598_26 [] E_b598_26 h_b598_26 := by
    refine e2_indL (u := 2) (j := 2) (lo := 2147483648) (hi := 2147483657) (b := 2) (dd := 0) hl0 (by decide) rfl rfl (Or.inr ⟨rfl, rfl⟩) rfl ci_b598_26 cj_b598_26 ?_
    intro r_26 k_26 hk_26 hp_26 hs_26 hn_26
    have hl_26 : r_26.length ≤ 3 := hs_26.len rfl
    have ha_26 := ha.ext hp_26
    exact e2_fromM hen ha_26 hcall (e2_cutA_ok (e2_fa (fun al st E h hc => hn_26 al st E h hc) (e2_fa (fun al st E h hc => (EN_27 al st E h hc).ext hp_26) e2_fz))) (hC [76, 192, 195]) (X := e2x_230) ex2_230 2 ck_b598_26
  have EN_26 := e2_entL (u := 2) (j := 2) (lo := 2147483648) (hi := 2147483657) hl0 rfl rfl rfl ci_b598_26 cj_b598_26 L_26
  exact e2_from hen ha hcall (e2_cutA_ok (e2_fa (fun al st E h hc => EN_26 al st E h hc) e2_fz)) (hC [76, 192, 195]) (X := e2x_230) ex2_230 0 ck_b598_e
/-! b599 X10_read -/
def as_b599 : List ev_V := [(2, 83, 0), (11, 0, 4294967295)]
def E_b599 : e2_E := [(2147483648, 2147583648, 0, 0), (2147483653, 2147483653, 1, 0)]
def bc288 : ev_C := (50, [(11, 2147483649, 2147483654), (11, 2147483649, 2147483654), (11, 2147483649, 2147483654), (11, 2147483649, 2147483654), (11, 2147483649, 2147483654), (11, 2147483648, 2147483654), (11, 2147483648, 2147483654), (11, 2147483648, 2147483654), (11, 2147483648, 2147483654), (11, 2147483648, 2147483654), (11, 2147483648, 2147483654), (11, 2147483648, 2147483654), (11, 2147483648, 2147483654), (11, 2147483648, 2147483654), (11, 2147483648, 2147483654), (11, 2147483648, 2147483654)])
def bn3956 : e2_Q1 := (bc288, bc3)
def bn3957 : e2_Q2 := (bn130, bn3956)
def bn3958 : e2_Q3 := (bn129, bn3957)
def bn3959 : e2_Q4 := (bn3958, bn3573)
def bn3960 : e2_Q5 := (bn3959, bn156)
def bn3961 : e2_Q6 := (bn3960, bn3624)
def bn3962 : e2_Q7 := (bn3961, bn3594)
def bn3963 : e2_Q8 := (bn3614, bn3962)
noncomputable def f_b599 : ev_H := (bn3963 : e2_Q8)
noncomputable def q_b599_0 : ev_H := (bn3963 : e2_Q8)
noncomputable def rs_b599 : e2_Rs := [((11, 2147483647, 2147483668), q_b599_0)]
noncomputable def s_b599 : e2_Sm := (230, as_b599, E_b599, f_b599, rs_b599)
noncomputable def S_b599 : List e2_Sm := [s_b554, s_b555, s_b556, s_b557, s_b558, s_b559, s_b560, s_b561, s_b562, s_b563, s_b564, s_b565, s_b566, s_b567, s_b568, s_b569, s_b570, s_b571, s_b572, s_b573]
noncomputable def I_b599 : List e2_In := [(216, 1, e2x_216), (217, 1, e2x_217), (227, 2, e2x_227)]
set_option maxRecDepth 1000000 in
theorem co_b599 : e2_okSB E_b599.length as_b599 f_b599 rs_b599 = true := by decide +kernel
def al_b599_26 : List ev_V := [(2, 83, 0), (11, 0, 4294967295), (1, 2, 4294967296), (9, 0, 0), (9, 0, 0)]
def E_b599_26 : e2_E := [(2147483648, 2147583648, 0, 0), (2147483653, 2147483653, 1, 0), (2147483648, 2147483657, 2, 0)]
noncomputable def h_b599_26 : ev_H := (bn3963 : e2_Q8)
def al_b599_27 : List ev_V := [(2, 83, 0), (11, 0, 4294967295), (1, 2, 4294967296), (9, 0, 0), (9, 0, 0)]
def E_b599_27 : e2_E := [(2147483648, 2147583648, 0, 0), (2147483653, 2147483653, 1, 0), (2147483647, 2147483667, 2, 0)]
noncomputable def h_b599_27 : ev_H := (bn3963 : e2_Q8)
def al_b599_28 : List ev_V := [(2, 83, 0), (11, 0, 4294967295), (1, 2, 4294967296), (1, 3, 4294967296), (9, 0, 0)]
def E_b599_28 : e2_E := [(2147483648, 2147583648, 0, 0), (2147483653, 2147483653, 1, 0), (2147483648, 2147483667, 2, 0), (2147483648, 2147483657, 3, 0)]
noncomputable def h_b599_28 : ev_H := (bn3963 : e2_Q8)
def bn3964 : e2_Q7 := (bn3961, bn3633)
def bn3965 : e2_Q8 := (bn3614, bn3964)
noncomputable def h_b599_0 : ev_H := (bn3965 : e2_Q8)
def bn3966 : e2_Q7 := (bn3961, bn3651)
def bn3967 : e2_Q8 := (bn3614, bn3966)
noncomputable def h_b599_1 : ev_H := (bn3967 : e2_Q8)
def bn3968 : e2_Q7 := (bn3961, bn3659)
def bn3969 : e2_Q8 := (bn3614, bn3968)
noncomputable def h_b599_2 : ev_H := (bn3969 : e2_Q8)
def bn3970 : e2_Q7 := (bn3961, bn3667)
def bn3971 : e2_Q8 := (bn3614, bn3970)
noncomputable def h_b599_3 : ev_H := (bn3971 : e2_Q8)
def bn3972 : e2_Q7 := (bn3961, bn3675)
def bn3973 : e2_Q8 := (bn3614, bn3972)
noncomputable def h_b599_4 : ev_H := (bn3973 : e2_Q8)
def bn3974 : e2_Q7 := (bn3961, bn3683)
def bn3975 : e2_Q8 := (bn3614, bn3974)
noncomputable def h_b599_5 : ev_H := (bn3975 : e2_Q8)
def bn3976 : e2_Q7 := (bn3961, bn3691)
def bn3977 : e2_Q8 := (bn3614, bn3976)
noncomputable def h_b599_6 : ev_H := (bn3977 : e2_Q8)
def bn3978 : e2_Q7 := (bn3961, bn3699)
def bn3979 : e2_Q8 := (bn3614, bn3978)
noncomputable def h_b599_7 : ev_H := (bn3979 : e2_Q8)
def bn3980 : e2_Q7 := (bn3961, bn3707)
def bn3981 : e2_Q8 := (bn3614, bn3980)
noncomputable def h_b599_8 : ev_H := (bn3981 : e2_Q8)
def bn3982 : e2_Q7 := (bn3961, bn3715)
def bn3983 : e2_Q8 := (bn3614, bn3982)
noncomputable def h_b599_9 : ev_H := (bn3983 : e2_Q8)
def bn3984 : e2_Q7 := (bn3961, bn3723)
def bn3985 : e2_Q8 := (bn3614, bn3984)
noncomputable def h_b599_10 : ev_H := (bn3985 : e2_Q8)
def bn3986 : e2_Q7 := (bn3961, bn3731)
def bn3987 : e2_Q8 := (bn3614, bn3986)
noncomputable def h_b599_11 : ev_H := (bn3987 : e2_Q8)
def bn3988 : e2_Q7 := (bn3961, bn3739)
def bn3989 : e2_Q8 := (bn3614, bn3988)
noncomputable def h_b599_12 : ev_H := (bn3989 : e2_Q8)
def bn3990 : e2_Q7 := (bn3961, bn3747)
def bn3991 : e2_Q8 := (bn3614, bn3990)
noncomputable def h_b599_13 : ev_H := (bn3991 : e2_Q8)
def bn3992 : e2_Q7 := (bn3961, bn3755)
def bn3993 : e2_Q8 := (bn3614, bn3992)
noncomputable def h_b599_14 : ev_H := (bn3993 : e2_Q8)
def bn3994 : e2_Q7 := (bn3961, bn3763)
def bn3995 : e2_Q8 := (bn3614, bn3994)
noncomputable def h_b599_15 : ev_H := (bn3995 : e2_Q8)
def bn3996 : e2_Q7 := (bn3961, bn3771)
def bn3997 : e2_Q8 := (bn3614, bn3996)
noncomputable def h_b599_16 : ev_H := (bn3997 : e2_Q8)
def bn3998 : e2_Q7 := (bn3961, bn3779)
def bn3999 : e2_Q8 := (bn3614, bn3998)
noncomputable def h_b599_17 : ev_H := (bn3999 : e2_Q8)
def bn4000 : e2_Q7 := (bn3961, bn3787)
def bn4001 : e2_Q8 := (bn3614, bn4000)
noncomputable def h_b599_18 : ev_H := (bn4001 : e2_Q8)
def bn4002 : e2_Q7 := (bn3961, bn3795)
def bn4003 : e2_Q8 := (bn3614, bn4002)
noncomputable def h_b599_19 : ev_H := (bn4003 : e2_Q8)
noncomputable def h_b599_20 : ev_H := (bn3963 : e2_Q8)
def bn4004 : e2_Q7 := (bn3961, bn3803)
def bn4005 : e2_Q8 := (bn3614, bn4004)
noncomputable def h_b599_21 : ev_H := (bn4005 : e2_Q8)
noncomputable def h_b599_22 : ev_H := (bn4005 : e2_Q8)
noncomputable def h_b599_23 : ev_H := (bn4005 : e2_Q8)
noncomputable def h_b599_24 : ev_H := (bn4005 : e2_Q8)
noncomputable def h_b599_25 : ev_H := (bn4005 : e2_Q8)
noncomputable def cu_b599_120 : List e2_Cu := [([(2, 83, 0), (11, 0, 4294967295), (0, 0, 0), (0, 8, 0), (9, 0, 0)], [(2147483648, 2147583648, 0, 0), (2147483653, 2147483653, 1, 0)], h_b599_0),
  ([(2, 83, 0), (11, 0, 4294967295), (0, 1, 0), (11, 2147483648, 2147483656), (11, 2147483647, 2147483652)], [(2147483648, 2147583648, 0, 0), (2147483653, 2147483653, 1, 0)], h_b599_1),
  ([(2, 83, 0), (11, 0, 4294967295), (0, 2, 0), (11, 2147483648, 2147483656), (11, 2147483647, 2147483652)], [(2147483648, 2147583648, 0, 0), (2147483653, 2147483653, 1, 0)], h_b599_2),
  ([(2, 83, 0), (11, 0, 4294967295), (0, 3, 0), (11, 2147483648, 2147483656), (11, 2147483647, 2147483652)], [(2147483648, 2147583648, 0, 0), (2147483653, 2147483653, 1, 0)], h_b599_3),
  ([(2, 83, 0), (11, 0, 4294967295), (0, 4, 0), (11, 2147483648, 2147483656), (11, 2147483647, 2147483652)], [(2147483648, 2147583648, 0, 0), (2147483653, 2147483653, 1, 0)], h_b599_4),
  ([(2, 83, 0), (11, 0, 4294967295), (0, 5, 0), (11, 2147483648, 2147483656), (11, 2147483647, 2147483652)], [(2147483648, 2147583648, 0, 0), (2147483653, 2147483653, 1, 0)], h_b599_5),
  ([(2, 83, 0), (11, 0, 4294967295), (0, 6, 0), (11, 2147483648, 2147483656), (11, 2147483647, 2147483652)], [(2147483648, 2147583648, 0, 0), (2147483653, 2147483653, 1, 0)], h_b599_6),
  ([(2, 83, 0), (11, 0, 4294967295), (0, 7, 0), (11, 2147483648, 2147483656), (11, 2147483647, 2147483652)], [(2147483648, 2147583648, 0, 0), (2147483653, 2147483653, 1, 0)], h_b599_7),
  ([(2, 83, 0), (11, 0, 4294967295), (0, 8, 0), (11, 2147483648, 2147483656), (11, 2147483647, 2147483652)], [(2147483648, 2147583648, 0, 0), (2147483653, 2147483653, 1, 0)], h_b599_8),
  ([(2, 83, 0), (11, 0, 4294967295), (0, 9, 0), (11, 2147483648, 2147483656), (11, 2147483647, 2147483652)], [(2147483648, 2147583648, 0, 0), (2147483653, 2147483653, 1, 0)], h_b599_9),
  ([(2, 83, 0), (11, 0, 4294967295), (0, 10, 0), (11, 2147483648, 2147483656), (11, 2147483647, 2147483652)], [(2147483648, 2147583648, 0, 0), (2147483653, 2147483653, 1, 0)], h_b599_10),
  ([(2, 83, 0), (11, 0, 4294967295), (0, 11, 0), (11, 2147483648, 2147483656), (11, 2147483647, 2147483652)], [(2147483648, 2147583648, 0, 0), (2147483653, 2147483653, 1, 0)], h_b599_11),
  ([(2, 83, 0), (11, 0, 4294967295), (0, 12, 0), (11, 2147483648, 2147483656), (11, 2147483647, 2147483652)], [(2147483648, 2147583648, 0, 0), (2147483653, 2147483653, 1, 0)], h_b599_12),
  ([(2, 83, 0), (11, 0, 4294967295), (0, 13, 0), (11, 2147483648, 2147483656), (11, 2147483647, 2147483652)], [(2147483648, 2147583648, 0, 0), (2147483653, 2147483653, 1, 0)], h_b599_13),
  ([(2, 83, 0), (11, 0, 4294967295), (0, 14, 0), (11, 2147483648, 2147483656), (11, 2147483647, 2147483652)], [(2147483648, 2147583648, 0, 0), (2147483653, 2147483653, 1, 0)], h_b599_14),
  ([(2, 83, 0), (11, 0, 4294967295), (0, 15, 0), (11, 2147483648, 2147483656), (11, 2147483647, 2147483652)], [(2147483648, 2147583648, 0, 0), (2147483653, 2147483653, 1, 0)], h_b599_15),
  ([(2, 83, 0), (11, 0, 4294967295), (0, 16, 0), (11, 2147483648, 2147483656), (11, 2147483647, 2147483652)], [(2147483648, 2147583648, 0, 0), (2147483653, 2147483653, 1, 0)], h_b599_16),
  ([(2, 83, 0), (11, 0, 4294967295), (0, 17, 0), (11, 2147483648, 2147483656), (11, 2147483647, 2147483652)], [(2147483648, 2147583648, 0, 0), (2147483653, 2147483653, 1, 0)], h_b599_17),
  ([(2, 83, 0), (11, 0, 4294967295), (0, 18, 0), (11, 2147483648, 2147483656), (11, 2147483647, 2147483652)], [(2147483648, 2147583648, 0, 0), (2147483653, 2147483653, 1, 0)], h_b599_18),
  ([(2, 83, 0), (11, 0, 4294967295), (0, 19, 0), (11, 2147483648, 2147483656), (11, 2147483647, 2147483652)], [(2147483648, 2147583648, 0, 0), (2147483653, 2147483653, 1, 0)], h_b599_19),
  ([(2, 83, 0), (11, 0, 4294967295), (0, 20, 0), (11, 2147483648, 2147483656), (11, 2147483647, 2147483652)], [(2147483648, 2147583648, 0, 0), (2147483653, 2147483653, 1, 0)], h_b599_20),
  ([(2, 83, 0), (11, 0, 4294967295), (0, 21, 0), (11, 2147483648, 2147483652), (11, 2147483648, 2147483652)], [(2147483648, 2147583648, 0, 0), (2147483653, 2147483653, 1, 0)], h_b599_21),
  ([(2, 83, 0), (11, 0, 4294967295), (0, 22, 0), (11, 2147483648, 2147483652), (11, 2147483648, 2147483652)], [(2147483648, 2147583648, 0, 0), (2147483653, 2147483653, 1, 0)], h_b599_22),
  ([(2, 83, 0), (11, 0, 4294967295), (0, 23, 0), (11, 2147483648, 2147483652), (11, 2147483648, 2147483652)], [(2147483648, 2147583648, 0, 0), (2147483653, 2147483653, 1, 0)], h_b599_23),
  ([(2, 83, 0), (11, 0, 4294967295), (0, 24, 0), (11, 2147483648, 2147483652), (11, 2147483648, 2147483652)], [(2147483648, 2147583648, 0, 0), (2147483653, 2147483653, 1, 0)], h_b599_24),
  ([(2, 83, 0), (11, 0, 4294967295), (0, 25, 0), (11, 2147483648, 2147483652), (11, 2147483648, 2147483652)], [(2147483648, 2147583648, 0, 0), (2147483653, 2147483653, 1, 0)], h_b599_25)]
noncomputable def cl_b599_e : List (Nat × e2_S) := [(2, e2_cutL (al_b599_26.set 2 (11, 2147483648, 2147483657)) 2 (E_b599_26.take 2) h_b599_26)]
set_option maxRecDepth 1000000 in
theorem ck_b599_e : e2_run (e2_orG 231 83 11 2 2147483648 2147483668 as_b593 Eb_b593 f_b593 rs_b593 (e2_orG 231 83 11 2 2147483648 2147483668 as_b592 Eb_b592 f_b592 rs_b592 (e2_orG 231 83 11 2 2147483648 2147483668 as_b591 Eb_b591 f_b591 rs_b591 (e2_orG 231 83 11 2 2147483648 2147483668 as_b590 Eb_b590 f_b590 rs_b590 (e2_orG 231 83 11 2 2147483648 2147483668 as_b589 Eb_b589 f_b589 rs_b589 (e2_orG 231 83 11 2 2147483648 2147483668 as_b588 Eb_b588 f_b588 rs_b588 (e2_orG 231 83 11 2 2147483648 2147483668 as_b587 Eb_b587 f_b587 rs_b587 (e2_orG 231 83 11 2 2147483648 2147483668 as_b586 Eb_b586 f_b586 rs_b586 (e2_orG 231 83 11 2 2147483648 2147483668 as_b585 Eb_b585 f_b585 rs_b585 (e2_orG 231 83 11 2 2147483648 2147483668 as_b584 Eb_b584 f_b584 rs_b584 (e2_orG 231 83 11 2 2147483648 2147483668 as_b583 Eb_b583 f_b583 rs_b583 (e2_orG 231 83 11 2 2147483648 2147483668 as_b582 Eb_b582 f_b582 rs_b582 (e2_orG 231 83 11 2 2147483648 2147483668 as_b581 Eb_b581 f_b581 rs_b581 (e2_orG 231 83 11 2 2147483648 2147483668 as_b580 Eb_b580 f_b580 rs_b580 (e2_orG 231 83 11 2 2147483648 2147483668 as_b579 Eb_b579 f_b579 rs_b579 (e2_orG 231 83 11 2 2147483648 2147483668 as_b578 Eb_b578 f_b578 rs_b578 (e2_orG 231 83 11 2 2147483648 2147483668 as_b577 Eb_b577 f_b577 rs_b577 (e2_orG 231 83 11 2 2147483648 2147483668 as_b576 Eb_b576 f_b576 rs_b576 (e2_orG 231 83 11 2 2147483648 2147483668 as_b575 Eb_b575 f_b575 rs_b575 (e2_orG 231 83 11 2 2147483648 2147483668 as_b574 Eb_b574 f_b574 rs_b574 (e2_cal S_b599 I_b599 4000 1))))))))))))))))))))) (e2_fin rs_b599) e2x_230 (e2_bpL cl_b599_e) (e2_cutA cl_b599_e) 4000 (e2_seek e2x_230 0) (e2_al 5 as_b599) [] E_b599 f_b599 = true := by decide +kernel
noncomputable def cl_b599_26 : List (Nat × e2_S) := [(2, e2_cutL (al_b599_26.set 2 (13, 10, 2147483657)) 2 (E_b599_26.take 2) h_b599_26),
  (49, e2_cutL (al_b599_27.set 2 (11, 2147483647, 2147483667)) 2 (E_b599_27.take 2) h_b599_27)]
set_option maxRecDepth 1000000 in
theorem ck_b599_26 : e2_runM (e2_orG 231 83 11 2 2147483648 2147483668 as_b593 Eb_b593 f_b593 rs_b593 (e2_orG 231 83 11 2 2147483648 2147483668 as_b592 Eb_b592 f_b592 rs_b592 (e2_orG 231 83 11 2 2147483648 2147483668 as_b591 Eb_b591 f_b591 rs_b591 (e2_orG 231 83 11 2 2147483648 2147483668 as_b590 Eb_b590 f_b590 rs_b590 (e2_orG 231 83 11 2 2147483648 2147483668 as_b589 Eb_b589 f_b589 rs_b589 (e2_orG 231 83 11 2 2147483648 2147483668 as_b588 Eb_b588 f_b588 rs_b588 (e2_orG 231 83 11 2 2147483648 2147483668 as_b587 Eb_b587 f_b587 rs_b587 (e2_orG 231 83 11 2 2147483648 2147483668 as_b586 Eb_b586 f_b586 rs_b586 (e2_orG 231 83 11 2 2147483648 2147483668 as_b585 Eb_b585 f_b585 rs_b585 (e2_orG 231 83 11 2 2147483648 2147483668 as_b584 Eb_b584 f_b584 rs_b584 (e2_orG 231 83 11 2 2147483648 2147483668 as_b583 Eb_b583 f_b583 rs_b583 (e2_orG 231 83 11 2 2147483648 2147483668 as_b582 Eb_b582 f_b582 rs_b582 (e2_orG 231 83 11 2 2147483648 2147483668 as_b581 Eb_b581 f_b581 rs_b581 (e2_orG 231 83 11 2 2147483648 2147483668 as_b580 Eb_b580 f_b580 rs_b580 (e2_orG 231 83 11 2 2147483648 2147483668 as_b579 Eb_b579 f_b579 rs_b579 (e2_orG 231 83 11 2 2147483648 2147483668 as_b578 Eb_b578 f_b578 rs_b578 (e2_orG 231 83 11 2 2147483648 2147483668 as_b577 Eb_b577 f_b577 rs_b577 (e2_orG 231 83 11 2 2147483648 2147483668 as_b576 Eb_b576 f_b576 rs_b576 (e2_orG 231 83 11 2 2147483648 2147483668 as_b575 Eb_b575 f_b575 rs_b575 (e2_orG 231 83 11 2 2147483648 2147483668 as_b574 Eb_b574 f_b574 rs_b574 (e2_cal S_b599 I_b599 4000 1))))))))))))))))))))) (e2_fin rs_b599) e2x_230 (e2_bpL cl_b599_26) (e2_cutA cl_b599_26) 4000 (e2_seek e2x_230 2) al_b599_26 [] E_b599_26 h_b599_26 = true := by decide +kernel
set_option maxRecDepth 1000000 in
theorem ci_b599_26 : e2_idl 2 (al_b599_26.set 2 (9, 0, 0)) = true := by decide +kernel
set_option maxRecDepth 1000000 in
theorem cj_b599_26 : e2_idh 2 8 h_b599_26 = true := by decide +kernel
noncomputable def cl_b599_27 : List (Nat × e2_S) := [(120, e2_cutS cu_b599_120),
  (55, e2_cutL (al_b599_28.set 3 (11, 2147483648, 2147483657)) 3 (E_b599_28.take 3) h_b599_28)]
set_option maxRecDepth 1000000 in
theorem ck_b599_27 : e2_runM (e2_orG 231 83 11 2 2147483648 2147483668 as_b593 Eb_b593 f_b593 rs_b593 (e2_orG 231 83 11 2 2147483648 2147483668 as_b592 Eb_b592 f_b592 rs_b592 (e2_orG 231 83 11 2 2147483648 2147483668 as_b591 Eb_b591 f_b591 rs_b591 (e2_orG 231 83 11 2 2147483648 2147483668 as_b590 Eb_b590 f_b590 rs_b590 (e2_orG 231 83 11 2 2147483648 2147483668 as_b589 Eb_b589 f_b589 rs_b589 (e2_orG 231 83 11 2 2147483648 2147483668 as_b588 Eb_b588 f_b588 rs_b588 (e2_orG 231 83 11 2 2147483648 2147483668 as_b587 Eb_b587 f_b587 rs_b587 (e2_orG 231 83 11 2 2147483648 2147483668 as_b586 Eb_b586 f_b586 rs_b586 (e2_orG 231 83 11 2 2147483648 2147483668 as_b585 Eb_b585 f_b585 rs_b585 (e2_orG 231 83 11 2 2147483648 2147483668 as_b584 Eb_b584 f_b584 rs_b584 (e2_orG 231 83 11 2 2147483648 2147483668 as_b583 Eb_b583 f_b583 rs_b583 (e2_orG 231 83 11 2 2147483648 2147483668 as_b582 Eb_b582 f_b582 rs_b582 (e2_orG 231 83 11 2 2147483648 2147483668 as_b581 Eb_b581 f_b581 rs_b581 (e2_orG 231 83 11 2 2147483648 2147483668 as_b580 Eb_b580 f_b580 rs_b580 (e2_orG 231 83 11 2 2147483648 2147483668 as_b579 Eb_b579 f_b579 rs_b579 (e2_orG 231 83 11 2 2147483648 2147483668 as_b578 Eb_b578 f_b578 rs_b578 (e2_orG 231 83 11 2 2147483648 2147483668 as_b577 Eb_b577 f_b577 rs_b577 (e2_orG 231 83 11 2 2147483648 2147483668 as_b576 Eb_b576 f_b576 rs_b576 (e2_orG 231 83 11 2 2147483648 2147483668 as_b575 Eb_b575 f_b575 rs_b575 (e2_orG 231 83 11 2 2147483648 2147483668 as_b574 Eb_b574 f_b574 rs_b574 (e2_cal S_b599 I_b599 4000 1))))))))))))))))))))) (e2_fin rs_b599) e2x_230 (e2_bpL cl_b599_27) (e2_cutA cl_b599_27) 4000 (e2_seek e2x_230 49) al_b599_27 [] E_b599_27 h_b599_27 = true := by decide +kernel
set_option maxRecDepth 1000000 in
theorem ci_b599_27 : e2_idl 2 (al_b599_27.set 2 (9, 0, 0)) = true := by decide +kernel
set_option maxRecDepth 1000000 in
theorem cj_b599_27 : e2_idh 2 8 h_b599_27 = true := by decide +kernel
noncomputable def cl_b599_28 : List (Nat × e2_S) := [(49, e2_cutL (al_b599_27.set 2 (12, 10, 2147483647)) 2 (E_b599_27.take 2) h_b599_27),
  (55, e2_cutL (al_b599_28.set 3 (13, 11, 2147483657)) 3 (E_b599_28.take 3) h_b599_28)]
set_option maxRecDepth 1000000 in
theorem ck_b599_28 : e2_runM (e2_orG 231 83 11 2 2147483648 2147483668 as_b593 Eb_b593 f_b593 rs_b593 (e2_orG 231 83 11 2 2147483648 2147483668 as_b592 Eb_b592 f_b592 rs_b592 (e2_orG 231 83 11 2 2147483648 2147483668 as_b591 Eb_b591 f_b591 rs_b591 (e2_orG 231 83 11 2 2147483648 2147483668 as_b590 Eb_b590 f_b590 rs_b590 (e2_orG 231 83 11 2 2147483648 2147483668 as_b589 Eb_b589 f_b589 rs_b589 (e2_orG 231 83 11 2 2147483648 2147483668 as_b588 Eb_b588 f_b588 rs_b588 (e2_orG 231 83 11 2 2147483648 2147483668 as_b587 Eb_b587 f_b587 rs_b587 (e2_orG 231 83 11 2 2147483648 2147483668 as_b586 Eb_b586 f_b586 rs_b586 (e2_orG 231 83 11 2 2147483648 2147483668 as_b585 Eb_b585 f_b585 rs_b585 (e2_orG 231 83 11 2 2147483648 2147483668 as_b584 Eb_b584 f_b584 rs_b584 (e2_orG 231 83 11 2 2147483648 2147483668 as_b583 Eb_b583 f_b583 rs_b583 (e2_orG 231 83 11 2 2147483648 2147483668 as_b582 Eb_b582 f_b582 rs_b582 (e2_orG 231 83 11 2 2147483648 2147483668 as_b581 Eb_b581 f_b581 rs_b581 (e2_orG 231 83 11 2 2147483648 2147483668 as_b580 Eb_b580 f_b580 rs_b580 (e2_orG 231 83 11 2 2147483648 2147483668 as_b579 Eb_b579 f_b579 rs_b579 (e2_orG 231 83 11 2 2147483648 2147483668 as_b578 Eb_b578 f_b578 rs_b578 (e2_orG 231 83 11 2 2147483648 2147483668 as_b577 Eb_b577 f_b577 rs_b577 (e2_orG 231 83 11 2 2147483648 2147483668 as_b576 Eb_b576 f_b576 rs_b576 (e2_orG 231 83 11 2 2147483648 2147483668 as_b575 Eb_b575 f_b575 rs_b575 (e2_orG 231 83 11 2 2147483648 2147483668 as_b574 Eb_b574 f_b574 rs_b574 (e2_cal S_b599 I_b599 4000 1))))))))))))))))))))) (e2_fin rs_b599) e2x_230 (e2_bpL cl_b599_28) (e2_cutA cl_b599_28) 4000 (e2_seek e2x_230 55) al_b599_28 [] E_b599_28 h_b599_28 = true := by decide +kernel
set_option maxRecDepth 1000000 in
theorem ci_b599_28 : e2_idl 3 (al_b599_28.set 3 (9, 0, 0)) = true := by decide +kernel
set_option maxRecDepth 1000000 in
theorem cj_b599_28 : e2_idh 3 8 h_b599_28 = true := by decide +kernel
set_option maxRecDepth 1000000 in
theorem ck_b599_u120 : e2_cutsB (e2_orG 231 83 11 2 2147483648 2147483668 as_b593 Eb_b593 f_b593 rs_b593 (e2_orG 231 83 11 2 2147483648 2147483668 as_b592 Eb_b592 f_b592 rs_b592 (e2_orG 231 83 11 2 2147483648 2147483668 as_b591 Eb_b591 f_b591 rs_b591 (e2_orG 231 83 11 2 2147483648 2147483668 as_b590 Eb_b590 f_b590 rs_b590 (e2_orG 231 83 11 2 2147483648 2147483668 as_b589 Eb_b589 f_b589 rs_b589 (e2_orG 231 83 11 2 2147483648 2147483668 as_b588 Eb_b588 f_b588 rs_b588 (e2_orG 231 83 11 2 2147483648 2147483668 as_b587 Eb_b587 f_b587 rs_b587 (e2_orG 231 83 11 2 2147483648 2147483668 as_b586 Eb_b586 f_b586 rs_b586 (e2_orG 231 83 11 2 2147483648 2147483668 as_b585 Eb_b585 f_b585 rs_b585 (e2_orG 231 83 11 2 2147483648 2147483668 as_b584 Eb_b584 f_b584 rs_b584 (e2_orG 231 83 11 2 2147483648 2147483668 as_b583 Eb_b583 f_b583 rs_b583 (e2_orG 231 83 11 2 2147483648 2147483668 as_b582 Eb_b582 f_b582 rs_b582 (e2_orG 231 83 11 2 2147483648 2147483668 as_b581 Eb_b581 f_b581 rs_b581 (e2_orG 231 83 11 2 2147483648 2147483668 as_b580 Eb_b580 f_b580 rs_b580 (e2_orG 231 83 11 2 2147483648 2147483668 as_b579 Eb_b579 f_b579 rs_b579 (e2_orG 231 83 11 2 2147483648 2147483668 as_b578 Eb_b578 f_b578 rs_b578 (e2_orG 231 83 11 2 2147483648 2147483668 as_b577 Eb_b577 f_b577 rs_b577 (e2_orG 231 83 11 2 2147483648 2147483668 as_b576 Eb_b576 f_b576 rs_b576 (e2_orG 231 83 11 2 2147483648 2147483668 as_b575 Eb_b575 f_b575 rs_b575 (e2_orG 231 83 11 2 2147483648 2147483668 as_b574 Eb_b574 f_b574 rs_b574 (e2_cal S_b599 I_b599 4000 1))))))))))))))))))))) (e2_fin rs_b599) e2x_230 120 4000 cu_b599_120 = true := by decide +kernel
set_option maxRecDepth 1000000 in
theorem cs_b599 (hen : en_ok) (l : Launch) : e2_smOk l 5 s_b599 := by
  refine e2_conC (H := 4) (C := evd_230) (call := (e2_orG 231 83 11 2 2147483648 2147483668 as_b593 Eb_b593 f_b593 rs_b593 (e2_orG 231 83 11 2 2147483648 2147483668 as_b592 Eb_b592 f_b592 rs_b592 (e2_orG 231 83 11 2 2147483648 2147483668 as_b591 Eb_b591 f_b591 rs_b591 (e2_orG 231 83 11 2 2147483648 2147483668 as_b590 Eb_b590 f_b590 rs_b590 (e2_orG 231 83 11 2 2147483648 2147483668 as_b589 Eb_b589 f_b589 rs_b589 (e2_orG 231 83 11 2 2147483648 2147483668 as_b588 Eb_b588 f_b588 rs_b588 (e2_orG 231 83 11 2 2147483648 2147483668 as_b587 Eb_b587 f_b587 rs_b587 (e2_orG 231 83 11 2 2147483648 2147483668 as_b586 Eb_b586 f_b586 rs_b586 (e2_orG 231 83 11 2 2147483648 2147483668 as_b585 Eb_b585 f_b585 rs_b585 (e2_orG 231 83 11 2 2147483648 2147483668 as_b584 Eb_b584 f_b584 rs_b584 (e2_orG 231 83 11 2 2147483648 2147483668 as_b583 Eb_b583 f_b583 rs_b583 (e2_orG 231 83 11 2 2147483648 2147483668 as_b582 Eb_b582 f_b582 rs_b582 (e2_orG 231 83 11 2 2147483648 2147483668 as_b581 Eb_b581 f_b581 rs_b581 (e2_orG 231 83 11 2 2147483648 2147483668 as_b580 Eb_b580 f_b580 rs_b580 (e2_orG 231 83 11 2 2147483648 2147483668 as_b579 Eb_b579 f_b579 rs_b579 (e2_orG 231 83 11 2 2147483648 2147483668 as_b578 Eb_b578 f_b578 rs_b578 (e2_orG 231 83 11 2 2147483648 2147483668 as_b577 Eb_b577 f_b577 rs_b577 (e2_orG 231 83 11 2 2147483648 2147483668 as_b576 Eb_b576 f_b576 rs_b576 (e2_orG 231 83 11 2 2147483648 2147483668 as_b575 Eb_b575 f_b575 rs_b575 (e2_orG 231 83 11 2 2147483648 2147483668 as_b574 Eb_b574 f_b574 rs_b574 (e2_cal S_b599 I_b599 4000 1)))))))))))))))))))))) ei_230 (fun d hd => (e2_orG_ok (k0 := 231) (a := 83) (j := 11) (n := 2) (lo := 2147483648) (hi := 2147483668) (as0 := as_b593) (Eb := Eb_b593) (f := f_b593) (res := rs_b593) (e2_orG_ok (k0 := 231) (a := 83) (j := 11) (n := 2) (lo := 2147483648) (hi := 2147483668) (as0 := as_b592) (Eb := Eb_b592) (f := f_b592) (res := rs_b592) (e2_orG_ok (k0 := 231) (a := 83) (j := 11) (n := 2) (lo := 2147483648) (hi := 2147483668) (as0 := as_b591) (Eb := Eb_b591) (f := f_b591) (res := rs_b591) (e2_orG_ok (k0 := 231) (a := 83) (j := 11) (n := 2) (lo := 2147483648) (hi := 2147483668) (as0 := as_b590) (Eb := Eb_b590) (f := f_b590) (res := rs_b590) (e2_orG_ok (k0 := 231) (a := 83) (j := 11) (n := 2) (lo := 2147483648) (hi := 2147483668) (as0 := as_b589) (Eb := Eb_b589) (f := f_b589) (res := rs_b589) (e2_orG_ok (k0 := 231) (a := 83) (j := 11) (n := 2) (lo := 2147483648) (hi := 2147483668) (as0 := as_b588) (Eb := Eb_b588) (f := f_b588) (res := rs_b588) (e2_orG_ok (k0 := 231) (a := 83) (j := 11) (n := 2) (lo := 2147483648) (hi := 2147483668) (as0 := as_b587) (Eb := Eb_b587) (f := f_b587) (res := rs_b587) (e2_orG_ok (k0 := 231) (a := 83) (j := 11) (n := 2) (lo := 2147483648) (hi := 2147483668) (as0 := as_b586) (Eb := Eb_b586) (f := f_b586) (res := rs_b586) (e2_orG_ok (k0 := 231) (a := 83) (j := 11) (n := 2) (lo := 2147483648) (hi := 2147483668) (as0 := as_b585) (Eb := Eb_b585) (f := f_b585) (res := rs_b585) (e2_orG_ok (k0 := 231) (a := 83) (j := 11) (n := 2) (lo := 2147483648) (hi := 2147483668) (as0 := as_b584) (Eb := Eb_b584) (f := f_b584) (res := rs_b584) (e2_orG_ok (k0 := 231) (a := 83) (j := 11) (n := 2) (lo := 2147483648) (hi := 2147483668) (as0 := as_b583) (Eb := Eb_b583) (f := f_b583) (res := rs_b583) (e2_orG_ok (k0 := 231) (a := 83) (j := 11) (n := 2) (lo := 2147483648) (hi := 2147483668) (as0 := as_b582) (Eb := Eb_b582) (f := f_b582) (res := rs_b582) (e2_orG_ok (k0 := 231) (a := 83) (j := 11) (n := 2) (lo := 2147483648) (hi := 2147483668) (as0 := as_b581) (Eb := Eb_b581) (f := f_b581) (res := rs_b581) (e2_orG_ok (k0 := 231) (a := 83) (j := 11) (n := 2) (lo := 2147483648) (hi := 2147483668) (as0 := as_b580) (Eb := Eb_b580) (f := f_b580) (res := rs_b580) (e2_orG_ok (k0 := 231) (a := 83) (j := 11) (n := 2) (lo := 2147483648) (hi := 2147483668) (as0 := as_b579) (Eb := Eb_b579) (f := f_b579) (res := rs_b579) (e2_orG_ok (k0 := 231) (a := 83) (j := 11) (n := 2) (lo := 2147483648) (hi := 2147483668) (as0 := as_b578) (Eb := Eb_b578) (f := f_b578) (res := rs_b578) (e2_orG_ok (k0 := 231) (a := 83) (j := 11) (n := 2) (lo := 2147483648) (hi := 2147483668) (as0 := as_b577) (Eb := Eb_b577) (f := f_b577) (res := rs_b577) (e2_orG_ok (k0 := 231) (a := 83) (j := 11) (n := 2) (lo := 2147483648) (hi := 2147483668) (as0 := as_b576) (Eb := Eb_b576) (f := f_b576) (res := rs_b576) (e2_orG_ok (k0 := 231) (a := 83) (j := 11) (n := 2) (lo := 2147483648) (hi := 2147483668) (as0 := as_b575) (Eb := Eb_b575) (f := f_b575) (res := rs_b575) (e2_orG_ok (k0 := 231) (a := 83) (j := 11) (n := 2) (lo := 2147483648) (hi := 2147483668) (as0 := as_b574) (Eb := Eb_b574) (f := f_b574) (res := rs_b574) (e2_cal_ok hen (e2_fa (cs_b554 hen l) (e2_fa (cs_b555 hen l) (e2_fa (cs_b556 hen l) (e2_fa (cs_b557 hen l) (e2_fa (cs_b558 hen l) (e2_fa (cs_b559 hen l) (e2_fa (cs_b560 hen l) (e2_fa (cs_b561 hen l) (e2_fa (cs_b562 hen l) (e2_fa (cs_b563 hen l) (e2_fa (cs_b564 hen l) (e2_fa (cs_b565 hen l) (e2_fa (cs_b566 hen l) (e2_fa (cs_b567 hen l) (e2_fa (cs_b568 hen l) (e2_fa (cs_b569 hen l) (e2_fa (cs_b570 hen l) (e2_fa (cs_b571 hen l) (e2_fa (cs_b572 hen l) (e2_fa (cs_b573 hen l) e2_fz)))))))))))))))))))) (e2_fa ein_216 (e2_fa ein_217 (e2_fa ein_227 e2_fz))) 1 d (by omega)) rfl (by decide +kernel) (fun M hM => (cs_b574 hen l).2 M hM d (by omega)) (e2_okGB_ok cog_b574)) rfl (by decide +kernel) (fun M hM => (cs_b575 hen l).2 M hM d (by omega)) (e2_okGB_ok cog_b575)) rfl (by decide +kernel) (fun M hM => (cs_b576 hen l).2 M hM d (by omega)) (e2_okGB_ok cog_b576)) rfl (by decide +kernel) (fun M hM => (cs_b577 hen l).2 M hM d (by omega)) (e2_okGB_ok cog_b577)) rfl (by decide +kernel) (fun M hM => (cs_b578 hen l).2 M hM d (by omega)) (e2_okGB_ok cog_b578)) rfl (by decide +kernel) (fun M hM => (cs_b579 hen l).2 M hM d (by omega)) (e2_okGB_ok cog_b579)) rfl (by decide +kernel) (fun M hM => (cs_b580 hen l).2 M hM d (by omega)) (e2_okGB_ok cog_b580)) rfl (by decide +kernel) (fun M hM => (cs_b581 hen l).2 M hM d (by omega)) (e2_okGB_ok cog_b581)) rfl (by decide +kernel) (fun M hM => (cs_b582 hen l).2 M hM d (by omega)) (e2_okGB_ok cog_b582)) rfl (by decide +kernel) (fun M hM => (cs_b583 hen l).2 M hM d (by omega)) (e2_okGB_ok cog_b583)) rfl (by decide +kernel) (fun M hM => (cs_b584 hen l).2 M hM d (by omega)) (e2_okGB_ok cog_b584)) rfl (by decide +kernel) (fun M hM => (cs_b585 hen l).2 M hM d (by omega)) (e2_okGB_ok cog_b585)) rfl (by decide +kernel) (fun M hM => (cs_b586 hen l).2 M hM d (by omega)) (e2_okGB_ok cog_b586)) rfl (by decide +kernel) (fun M hM => (cs_b587 hen l).2 M hM d (by omega)) (e2_okGB_ok cog_b587)) rfl (by decide +kernel) (fun M hM => (cs_b588 hen l).2 M hM d (by omega)) (e2_okGB_ok cog_b588)) rfl (by decide +kernel) (fun M hM => (cs_b589 hen l).2 M hM d (by omega)) (e2_okGB_ok cog_b589)) rfl (by decide +kernel) (fun M hM => (cs_b590 hen l).2 M hM d (by omega)) (e2_okGB_ok cog_b590)) rfl (by decide +kernel) (fun M hM => (cs_b591 hen l).2 M hM d (by omega)) (e2_okGB_ok cog_b591)) rfl (by decide +kernel) (fun M hM => (cs_b592 hen l).2 M hM d (by omega)) (e2_okGB_ok cog_b592)) rfl (by decide +kernel) (fun M hM => (cs_b593 hen l).2 M hM d (by omega)) (e2_okGB_ok cog_b593))) (by decide) co_b599 fun M d _ hC hcall p e R s m args below meth c Q D cA A ads r0 ha hl0 => ?_
  have EN_120 := e2_cutS_ok (bp := 120) (cuts := cu_b599_120) (e2_cuts_len hl0 (by decide +kernel)) (e2_cuts_ok hen ha hcall (hC [76, 192, 195]) (X := e2x_230) ex2_230 (e2_cuts_len hl0 (by decide +kernel)) ck_b599_u120)
  have L_27 : e2_gdM M p l e R s m args below meth c Q D cA A ads r0 49 al_b599_27 [] E_b599_27 h_b599_27 := by
    refine e2_indD (u := 2) (j := 2) (lo := 2147483647) (hi := 2147483667) hl0 (by decide) rfl rfl rfl ci_b599_27 cj_b599_27 ?_
    intro r_27 k_27 hk_27 hp_27 hs_27 hn_27
    have hl_27 : r_27.length ≤ 3 := hs_27.len rfl
    have ha_27 := ha.ext hp_27
    have L_28 : e2_gdM M p l e R s m args below meth c Q D cA A ads r_27 55 al_b599_28 [] E_b599_28 h_b599_28 := by
      refine e2_indL (u := 3) (j := 3) (lo := 2147483648) (hi := 2147483657) (b := 3) (dd := 0) hl_27 (by decide) rfl rfl (Or.inr ⟨rfl, rfl⟩) rfl ci_b599_28 cj_b599_28 ?_
      intro r_28 k_28 hk_28 hp_28 hs_28 hn_28
      have hl_28 : r_28.length ≤ 4 := hs_28.len rfl
      have ha_28 := ha_27.ext hp_28
      exact e2_fromM hen ha_28 hcall (e2_cutA_ok (e2_fa (fun al st E h hc => (hn_27 al st E h hc).ext hp_28) (e2_fa (fun al st E h hc => hn_28 al st E h hc) e2_fz))) (hC [76, 192, 195]) (X := e2x_230) ex2_230 55 ck_b599_28
    have EN_28 := e2_entL (u := 3) (j := 3) (lo := 2147483648) (hi := 2147483657) hl_27 rfl rfl rfl ci_b599_28 cj_b599_28 L_28
    exact e2_fromM hen ha_27 hcall (e2_cutA_ok (e2_fa (fun al st E h hc => (EN_120 al st E h hc).ext hp_27) (e2_fa (fun al st E h hc => EN_28 al st E h hc) e2_fz))) (hC [76, 192, 195]) (X := e2x_230) ex2_230 49 ck_b599_27
  have EN_27 := e2_entL (u := 2) (j := 2) (lo := 2147483647) (hi := 2147483667) hl0 rfl rfl rfl ci_b599_27 cj_b599_27 L_27
  have L_26 : e2_gdM M p l e R s m args below meth c Q D cA A ads r0 2 al_b599_26 [] E_b599_26 h_b599_26 := by
    refine e2_indL (u := 2) (j := 2) (lo := 2147483648) (hi := 2147483657) (b := 2) (dd := 0) hl0 (by decide) rfl rfl (Or.inr ⟨rfl, rfl⟩) rfl ci_b599_26 cj_b599_26 ?_
    intro r_26 k_26 hk_26 hp_26 hs_26 hn_26
    have hl_26 : r_26.length ≤ 3 := hs_26.len rfl
    have ha_26 := ha.ext hp_26
    exact e2_fromM hen ha_26 hcall (e2_cutA_ok (e2_fa (fun al st E h hc => hn_26 al st E h hc) (e2_fa (fun al st E h hc => (EN_27 al st E h hc).ext hp_26) e2_fz))) (hC [76, 192, 195]) (X := e2x_230) ex2_230 2 ck_b599_26
  have EN_26 := e2_entL (u := 2) (j := 2) (lo := 2147483648) (hi := 2147483657) hl0 rfl rfl rfl ci_b599_26 cj_b599_26 L_26
  exact e2_from hen ha hcall (e2_cutA_ok (e2_fa (fun al st E h hc => EN_26 al st E h hc) e2_fz)) (hC [76, 192, 195]) (X := e2x_230) ex2_230 0 ck_b599_e
/-! b600 X10_read -/
def as_b600 : List ev_V := [(2, 83, 0), (11, 0, 4294967295)]
def E_b600 : e2_E := [(2147483648, 2147583648, 0, 0), (2147483654, 2147483654, 1, 0)]
def bc289 : ev_C := (50, [(11, 2147483649, 2147483654), (11, 2147483649, 2147483654), (11, 2147483649, 2147483654), (11, 2147483649, 2147483654), (11, 2147483649, 2147483654), (11, 2147483649, 2147483654), (11, 2147483648, 2147483654), (11, 2147483648, 2147483654), (11, 2147483648, 2147483654), (11, 2147483648, 2147483654), (11, 2147483648, 2147483654), (11, 2147483648, 2147483654), (11, 2147483648, 2147483654), (11, 2147483648, 2147483654), (11, 2147483648, 2147483654), (11, 2147483648, 2147483654)])
def bn4006 : e2_Q1 := (bc289, bc3)
def bn4007 : e2_Q2 := (bn130, bn4006)
def bn4008 : e2_Q3 := (bn129, bn4007)
def bn4009 : e2_Q4 := (bn4008, bn3573)
def bn4010 : e2_Q5 := (bn4009, bn156)
def bn4011 : e2_Q6 := (bn4010, bn3624)
def bn4012 : e2_Q7 := (bn4011, bn3594)
def bn4013 : e2_Q8 := (bn3614, bn4012)
noncomputable def f_b600 : ev_H := (bn4013 : e2_Q8)
noncomputable def q_b600_0 : ev_H := (bn4013 : e2_Q8)
noncomputable def rs_b600 : e2_Rs := [((11, 2147483647, 2147483668), q_b600_0)]
noncomputable def s_b600 : e2_Sm := (230, as_b600, E_b600, f_b600, rs_b600)
noncomputable def S_b600 : List e2_Sm := [s_b554, s_b555, s_b556, s_b557, s_b558, s_b559, s_b560, s_b561, s_b562, s_b563, s_b564, s_b565, s_b566, s_b567, s_b568, s_b569, s_b570, s_b571, s_b572, s_b573]
noncomputable def I_b600 : List e2_In := [(216, 1, e2x_216), (217, 1, e2x_217), (227, 2, e2x_227)]
set_option maxRecDepth 1000000 in
theorem co_b600 : e2_okSB E_b600.length as_b600 f_b600 rs_b600 = true := by decide +kernel
def al_b600_26 : List ev_V := [(2, 83, 0), (11, 0, 4294967295), (1, 2, 4294967296), (9, 0, 0), (9, 0, 0)]
def E_b600_26 : e2_E := [(2147483648, 2147583648, 0, 0), (2147483654, 2147483654, 1, 0), (2147483648, 2147483657, 2, 0)]
noncomputable def h_b600_26 : ev_H := (bn4013 : e2_Q8)
def al_b600_27 : List ev_V := [(2, 83, 0), (11, 0, 4294967295), (1, 2, 4294967296), (9, 0, 0), (9, 0, 0)]
def E_b600_27 : e2_E := [(2147483648, 2147583648, 0, 0), (2147483654, 2147483654, 1, 0), (2147483647, 2147483667, 2, 0)]
noncomputable def h_b600_27 : ev_H := (bn4013 : e2_Q8)
def al_b600_28 : List ev_V := [(2, 83, 0), (11, 0, 4294967295), (1, 2, 4294967296), (1, 3, 4294967296), (9, 0, 0)]
def E_b600_28 : e2_E := [(2147483648, 2147583648, 0, 0), (2147483654, 2147483654, 1, 0), (2147483648, 2147483667, 2, 0), (2147483648, 2147483657, 3, 0)]
noncomputable def h_b600_28 : ev_H := (bn4013 : e2_Q8)
def bn4014 : e2_Q7 := (bn4011, bn3633)
def bn4015 : e2_Q8 := (bn3614, bn4014)
noncomputable def h_b600_0 : ev_H := (bn4015 : e2_Q8)
def bn4016 : e2_Q7 := (bn4011, bn3651)
def bn4017 : e2_Q8 := (bn3614, bn4016)
noncomputable def h_b600_1 : ev_H := (bn4017 : e2_Q8)
def bn4018 : e2_Q7 := (bn4011, bn3659)
def bn4019 : e2_Q8 := (bn3614, bn4018)
noncomputable def h_b600_2 : ev_H := (bn4019 : e2_Q8)
def bn4020 : e2_Q7 := (bn4011, bn3667)
def bn4021 : e2_Q8 := (bn3614, bn4020)
noncomputable def h_b600_3 : ev_H := (bn4021 : e2_Q8)
def bn4022 : e2_Q7 := (bn4011, bn3675)
def bn4023 : e2_Q8 := (bn3614, bn4022)
noncomputable def h_b600_4 : ev_H := (bn4023 : e2_Q8)
def bn4024 : e2_Q7 := (bn4011, bn3683)
def bn4025 : e2_Q8 := (bn3614, bn4024)
noncomputable def h_b600_5 : ev_H := (bn4025 : e2_Q8)
def bn4026 : e2_Q7 := (bn4011, bn3691)
def bn4027 : e2_Q8 := (bn3614, bn4026)
noncomputable def h_b600_6 : ev_H := (bn4027 : e2_Q8)
def bn4028 : e2_Q7 := (bn4011, bn3699)
def bn4029 : e2_Q8 := (bn3614, bn4028)
noncomputable def h_b600_7 : ev_H := (bn4029 : e2_Q8)
def bn4030 : e2_Q7 := (bn4011, bn3707)
def bn4031 : e2_Q8 := (bn3614, bn4030)
noncomputable def h_b600_8 : ev_H := (bn4031 : e2_Q8)
def bn4032 : e2_Q7 := (bn4011, bn3715)
def bn4033 : e2_Q8 := (bn3614, bn4032)
noncomputable def h_b600_9 : ev_H := (bn4033 : e2_Q8)
def bn4034 : e2_Q7 := (bn4011, bn3723)
def bn4035 : e2_Q8 := (bn3614, bn4034)
noncomputable def h_b600_10 : ev_H := (bn4035 : e2_Q8)
def bn4036 : e2_Q7 := (bn4011, bn3731)
def bn4037 : e2_Q8 := (bn3614, bn4036)
noncomputable def h_b600_11 : ev_H := (bn4037 : e2_Q8)
def bn4038 : e2_Q7 := (bn4011, bn3739)
def bn4039 : e2_Q8 := (bn3614, bn4038)
noncomputable def h_b600_12 : ev_H := (bn4039 : e2_Q8)
def bn4040 : e2_Q7 := (bn4011, bn3747)
def bn4041 : e2_Q8 := (bn3614, bn4040)
noncomputable def h_b600_13 : ev_H := (bn4041 : e2_Q8)
def bn4042 : e2_Q7 := (bn4011, bn3755)
def bn4043 : e2_Q8 := (bn3614, bn4042)
noncomputable def h_b600_14 : ev_H := (bn4043 : e2_Q8)
def bn4044 : e2_Q7 := (bn4011, bn3763)
def bn4045 : e2_Q8 := (bn3614, bn4044)
noncomputable def h_b600_15 : ev_H := (bn4045 : e2_Q8)
def bn4046 : e2_Q7 := (bn4011, bn3771)
def bn4047 : e2_Q8 := (bn3614, bn4046)
noncomputable def h_b600_16 : ev_H := (bn4047 : e2_Q8)
def bn4048 : e2_Q7 := (bn4011, bn3779)
def bn4049 : e2_Q8 := (bn3614, bn4048)
noncomputable def h_b600_17 : ev_H := (bn4049 : e2_Q8)
def bn4050 : e2_Q7 := (bn4011, bn3787)
def bn4051 : e2_Q8 := (bn3614, bn4050)
noncomputable def h_b600_18 : ev_H := (bn4051 : e2_Q8)
def bn4052 : e2_Q7 := (bn4011, bn3795)
def bn4053 : e2_Q8 := (bn3614, bn4052)
noncomputable def h_b600_19 : ev_H := (bn4053 : e2_Q8)
noncomputable def h_b600_20 : ev_H := (bn4013 : e2_Q8)
def bn4054 : e2_Q7 := (bn4011, bn3803)
def bn4055 : e2_Q8 := (bn3614, bn4054)
noncomputable def h_b600_21 : ev_H := (bn4055 : e2_Q8)
noncomputable def h_b600_22 : ev_H := (bn4055 : e2_Q8)
noncomputable def h_b600_23 : ev_H := (bn4055 : e2_Q8)
noncomputable def h_b600_24 : ev_H := (bn4055 : e2_Q8)
noncomputable def h_b600_25 : ev_H := (bn4055 : e2_Q8)
noncomputable def cu_b600_120 : List e2_Cu := [([(2, 83, 0), (11, 0, 4294967295), (0, 0, 0), (0, 8, 0), (9, 0, 0)], [(2147483648, 2147583648, 0, 0), (2147483654, 2147483654, 1, 0)], h_b600_0),
  ([(2, 83, 0), (11, 0, 4294967295), (0, 1, 0), (11, 2147483648, 2147483656), (11, 2147483647, 2147483653)], [(2147483648, 2147583648, 0, 0), (2147483654, 2147483654, 1, 0)], h_b600_1),
  ([(2, 83, 0), (11, 0, 4294967295), (0, 2, 0), (11, 2147483648, 2147483656), (11, 2147483647, 2147483653)], [(2147483648, 2147583648, 0, 0), (2147483654, 2147483654, 1, 0)], h_b600_2),
  ([(2, 83, 0), (11, 0, 4294967295), (0, 3, 0), (11, 2147483648, 2147483656), (11, 2147483647, 2147483653)], [(2147483648, 2147583648, 0, 0), (2147483654, 2147483654, 1, 0)], h_b600_3),
  ([(2, 83, 0), (11, 0, 4294967295), (0, 4, 0), (11, 2147483648, 2147483656), (11, 2147483647, 2147483653)], [(2147483648, 2147583648, 0, 0), (2147483654, 2147483654, 1, 0)], h_b600_4),
  ([(2, 83, 0), (11, 0, 4294967295), (0, 5, 0), (11, 2147483648, 2147483656), (11, 2147483647, 2147483653)], [(2147483648, 2147583648, 0, 0), (2147483654, 2147483654, 1, 0)], h_b600_5),
  ([(2, 83, 0), (11, 0, 4294967295), (0, 6, 0), (11, 2147483648, 2147483656), (11, 2147483647, 2147483653)], [(2147483648, 2147583648, 0, 0), (2147483654, 2147483654, 1, 0)], h_b600_6),
  ([(2, 83, 0), (11, 0, 4294967295), (0, 7, 0), (11, 2147483648, 2147483656), (11, 2147483647, 2147483653)], [(2147483648, 2147583648, 0, 0), (2147483654, 2147483654, 1, 0)], h_b600_7),
  ([(2, 83, 0), (11, 0, 4294967295), (0, 8, 0), (11, 2147483648, 2147483656), (11, 2147483647, 2147483653)], [(2147483648, 2147583648, 0, 0), (2147483654, 2147483654, 1, 0)], h_b600_8),
  ([(2, 83, 0), (11, 0, 4294967295), (0, 9, 0), (11, 2147483648, 2147483656), (11, 2147483647, 2147483653)], [(2147483648, 2147583648, 0, 0), (2147483654, 2147483654, 1, 0)], h_b600_9),
  ([(2, 83, 0), (11, 0, 4294967295), (0, 10, 0), (11, 2147483648, 2147483656), (11, 2147483647, 2147483653)], [(2147483648, 2147583648, 0, 0), (2147483654, 2147483654, 1, 0)], h_b600_10),
  ([(2, 83, 0), (11, 0, 4294967295), (0, 11, 0), (11, 2147483648, 2147483656), (11, 2147483647, 2147483653)], [(2147483648, 2147583648, 0, 0), (2147483654, 2147483654, 1, 0)], h_b600_11),
  ([(2, 83, 0), (11, 0, 4294967295), (0, 12, 0), (11, 2147483648, 2147483656), (11, 2147483647, 2147483653)], [(2147483648, 2147583648, 0, 0), (2147483654, 2147483654, 1, 0)], h_b600_12),
  ([(2, 83, 0), (11, 0, 4294967295), (0, 13, 0), (11, 2147483648, 2147483656), (11, 2147483647, 2147483653)], [(2147483648, 2147583648, 0, 0), (2147483654, 2147483654, 1, 0)], h_b600_13),
  ([(2, 83, 0), (11, 0, 4294967295), (0, 14, 0), (11, 2147483648, 2147483656), (11, 2147483647, 2147483653)], [(2147483648, 2147583648, 0, 0), (2147483654, 2147483654, 1, 0)], h_b600_14),
  ([(2, 83, 0), (11, 0, 4294967295), (0, 15, 0), (11, 2147483648, 2147483656), (11, 2147483647, 2147483653)], [(2147483648, 2147583648, 0, 0), (2147483654, 2147483654, 1, 0)], h_b600_15),
  ([(2, 83, 0), (11, 0, 4294967295), (0, 16, 0), (11, 2147483648, 2147483656), (11, 2147483647, 2147483653)], [(2147483648, 2147583648, 0, 0), (2147483654, 2147483654, 1, 0)], h_b600_16),
  ([(2, 83, 0), (11, 0, 4294967295), (0, 17, 0), (11, 2147483648, 2147483656), (11, 2147483647, 2147483653)], [(2147483648, 2147583648, 0, 0), (2147483654, 2147483654, 1, 0)], h_b600_17),
  ([(2, 83, 0), (11, 0, 4294967295), (0, 18, 0), (11, 2147483648, 2147483656), (11, 2147483647, 2147483653)], [(2147483648, 2147583648, 0, 0), (2147483654, 2147483654, 1, 0)], h_b600_18),
  ([(2, 83, 0), (11, 0, 4294967295), (0, 19, 0), (11, 2147483648, 2147483656), (11, 2147483647, 2147483653)], [(2147483648, 2147583648, 0, 0), (2147483654, 2147483654, 1, 0)], h_b600_19),
  ([(2, 83, 0), (11, 0, 4294967295), (0, 20, 0), (11, 2147483648, 2147483656), (11, 2147483647, 2147483653)], [(2147483648, 2147583648, 0, 0), (2147483654, 2147483654, 1, 0)], h_b600_20),
  ([(2, 83, 0), (11, 0, 4294967295), (0, 21, 0), (11, 2147483648, 2147483653), (11, 2147483648, 2147483653)], [(2147483648, 2147583648, 0, 0), (2147483654, 2147483654, 1, 0)], h_b600_21),
  ([(2, 83, 0), (11, 0, 4294967295), (0, 22, 0), (11, 2147483648, 2147483653), (11, 2147483648, 2147483653)], [(2147483648, 2147583648, 0, 0), (2147483654, 2147483654, 1, 0)], h_b600_22),
  ([(2, 83, 0), (11, 0, 4294967295), (0, 23, 0), (11, 2147483648, 2147483653), (11, 2147483648, 2147483653)], [(2147483648, 2147583648, 0, 0), (2147483654, 2147483654, 1, 0)], h_b600_23),
  ([(2, 83, 0), (11, 0, 4294967295), (0, 24, 0), (11, 2147483648, 2147483653), (11, 2147483648, 2147483653)], [(2147483648, 2147583648, 0, 0), (2147483654, 2147483654, 1, 0)], h_b600_24),
  ([(2, 83, 0), (11, 0, 4294967295), (0, 25, 0), (11, 2147483648, 2147483653), (11, 2147483648, 2147483653)], [(2147483648, 2147583648, 0, 0), (2147483654, 2147483654, 1, 0)], h_b600_25)]
noncomputable def cl_b600_e : List (Nat × e2_S) := [(2, e2_cutL (al_b600_26.set 2 (11, 2147483648, 2147483657)) 2 (E_b600_26.take 2) h_b600_26)]
set_option maxRecDepth 1000000 in
theorem ck_b600_e : e2_run (e2_orG 231 83 11 2 2147483648 2147483668 as_b593 Eb_b593 f_b593 rs_b593 (e2_orG 231 83 11 2 2147483648 2147483668 as_b592 Eb_b592 f_b592 rs_b592 (e2_orG 231 83 11 2 2147483648 2147483668 as_b591 Eb_b591 f_b591 rs_b591 (e2_orG 231 83 11 2 2147483648 2147483668 as_b590 Eb_b590 f_b590 rs_b590 (e2_orG 231 83 11 2 2147483648 2147483668 as_b589 Eb_b589 f_b589 rs_b589 (e2_orG 231 83 11 2 2147483648 2147483668 as_b588 Eb_b588 f_b588 rs_b588 (e2_orG 231 83 11 2 2147483648 2147483668 as_b587 Eb_b587 f_b587 rs_b587 (e2_orG 231 83 11 2 2147483648 2147483668 as_b586 Eb_b586 f_b586 rs_b586 (e2_orG 231 83 11 2 2147483648 2147483668 as_b585 Eb_b585 f_b585 rs_b585 (e2_orG 231 83 11 2 2147483648 2147483668 as_b584 Eb_b584 f_b584 rs_b584 (e2_orG 231 83 11 2 2147483648 2147483668 as_b583 Eb_b583 f_b583 rs_b583 (e2_orG 231 83 11 2 2147483648 2147483668 as_b582 Eb_b582 f_b582 rs_b582 (e2_orG 231 83 11 2 2147483648 2147483668 as_b581 Eb_b581 f_b581 rs_b581 (e2_orG 231 83 11 2 2147483648 2147483668 as_b580 Eb_b580 f_b580 rs_b580 (e2_orG 231 83 11 2 2147483648 2147483668 as_b579 Eb_b579 f_b579 rs_b579 (e2_orG 231 83 11 2 2147483648 2147483668 as_b578 Eb_b578 f_b578 rs_b578 (e2_orG 231 83 11 2 2147483648 2147483668 as_b577 Eb_b577 f_b577 rs_b577 (e2_orG 231 83 11 2 2147483648 2147483668 as_b576 Eb_b576 f_b576 rs_b576 (e2_orG 231 83 11 2 2147483648 2147483668 as_b575 Eb_b575 f_b575 rs_b575 (e2_orG 231 83 11 2 2147483648 2147483668 as_b574 Eb_b574 f_b574 rs_b574 (e2_cal S_b600 I_b600 4000 1))))))))))))))))))))) (e2_fin rs_b600) e2x_230 (e2_bpL cl_b600_e) (e2_cutA cl_b600_e) 4000 (e2_seek e2x_230 0) (e2_al 5 as_b600) [] E_b600 f_b600 = true := by decide +kernel
noncomputable def cl_b600_26 : List (Nat × e2_S) := [(2, e2_cutL (al_b600_26.set 2 (13, 10, 2147483657)) 2 (E_b600_26.take 2) h_b600_26),
  (49, e2_cutL (al_b600_27.set 2 (11, 2147483647, 2147483667)) 2 (E_b600_27.take 2) h_b600_27)]
set_option maxRecDepth 1000000 in
theorem ck_b600_26 : e2_runM (e2_orG 231 83 11 2 2147483648 2147483668 as_b593 Eb_b593 f_b593 rs_b593 (e2_orG 231 83 11 2 2147483648 2147483668 as_b592 Eb_b592 f_b592 rs_b592 (e2_orG 231 83 11 2 2147483648 2147483668 as_b591 Eb_b591 f_b591 rs_b591 (e2_orG 231 83 11 2 2147483648 2147483668 as_b590 Eb_b590 f_b590 rs_b590 (e2_orG 231 83 11 2 2147483648 2147483668 as_b589 Eb_b589 f_b589 rs_b589 (e2_orG 231 83 11 2 2147483648 2147483668 as_b588 Eb_b588 f_b588 rs_b588 (e2_orG 231 83 11 2 2147483648 2147483668 as_b587 Eb_b587 f_b587 rs_b587 (e2_orG 231 83 11 2 2147483648 2147483668 as_b586 Eb_b586 f_b586 rs_b586 (e2_orG 231 83 11 2 2147483648 2147483668 as_b585 Eb_b585 f_b585 rs_b585 (e2_orG 231 83 11 2 2147483648 2147483668 as_b584 Eb_b584 f_b584 rs_b584 (e2_orG 231 83 11 2 2147483648 2147483668 as_b583 Eb_b583 f_b583 rs_b583 (e2_orG 231 83 11 2 2147483648 2147483668 as_b582 Eb_b582 f_b582 rs_b582 (e2_orG 231 83 11 2 2147483648 2147483668 as_b581 Eb_b581 f_b581 rs_b581 (e2_orG 231 83 11 2 2147483648 2147483668 as_b580 Eb_b580 f_b580 rs_b580 (e2_orG 231 83 11 2 2147483648 2147483668 as_b579 Eb_b579 f_b579 rs_b579 (e2_orG 231 83 11 2 2147483648 2147483668 as_b578 Eb_b578 f_b578 rs_b578 (e2_orG 231 83 11 2 2147483648 2147483668 as_b577 Eb_b577 f_b577 rs_b577 (e2_orG 231 83 11 2 2147483648 2147483668 as_b576 Eb_b576 f_b576 rs_b576 (e2_orG 231 83 11 2 2147483648 2147483668 as_b575 Eb_b575 f_b575 rs_b575 (e2_orG 231 83 11 2 2147483648 2147483668 as_b574 Eb_b574 f_b574 rs_b574 (e2_cal S_b600 I_b600 4000 1))))))))))))))))))))) (e2_fin rs_b600) e2x_230 (e2_bpL cl_b600_26) (e2_cutA cl_b600_26) 4000 (e2_seek e2x_230 2) al_b600_26 [] E_b600_26 h_b600_26 = true := by decide +kernel
set_option maxRecDepth 1000000 in
theorem ci_b600_26 : e2_idl 2 (al_b600_26.set 2 (9, 0, 0)) = true := by decide +kernel
set_option maxRecDepth 1000000 in
theorem cj_b600_26 : e2_idh 2 8 h_b600_26 = true := by decide +kernel
noncomputable def cl_b600_27 : List (Nat × e2_S) := [(120, e2_cutS cu_b600_120),
  (55, e2_cutL (al_b600_28.set 3 (11, 2147483648, 2147483657)) 3 (E_b600_28.take 3) h_b600_28)]
set_option maxRecDepth 1000000 in
theorem ck_b600_27 : e2_runM (e2_orG 231 83 11 2 2147483648 2147483668 as_b593 Eb_b593 f_b593 rs_b593 (e2_orG 231 83 11 2 2147483648 2147483668 as_b592 Eb_b592 f_b592 rs_b592 (e2_orG 231 83 11 2 2147483648 2147483668 as_b591 Eb_b591 f_b591 rs_b591 (e2_orG 231 83 11 2 2147483648 2147483668 as_b590 Eb_b590 f_b590 rs_b590 (e2_orG 231 83 11 2 2147483648 2147483668 as_b589 Eb_b589 f_b589 rs_b589 (e2_orG 231 83 11 2 2147483648 2147483668 as_b588 Eb_b588 f_b588 rs_b588 (e2_orG 231 83 11 2 2147483648 2147483668 as_b587 Eb_b587 f_b587 rs_b587 (e2_orG 231 83 11 2 2147483648 2147483668 as_b586 Eb_b586 f_b586 rs_b586 (e2_orG 231 83 11 2 2147483648 2147483668 as_b585 Eb_b585 f_b585 rs_b585 (e2_orG 231 83 11 2 2147483648 2147483668 as_b584 Eb_b584 f_b584 rs_b584 (e2_orG 231 83 11 2 2147483648 2147483668 as_b583 Eb_b583 f_b583 rs_b583 (e2_orG 231 83 11 2 2147483648 2147483668 as_b582 Eb_b582 f_b582 rs_b582 (e2_orG 231 83 11 2 2147483648 2147483668 as_b581 Eb_b581 f_b581 rs_b581 (e2_orG 231 83 11 2 2147483648 2147483668 as_b580 Eb_b580 f_b580 rs_b580 (e2_orG 231 83 11 2 2147483648 2147483668 as_b579 Eb_b579 f_b579 rs_b579 (e2_orG 231 83 11 2 2147483648 2147483668 as_b578 Eb_b578 f_b578 rs_b578 (e2_orG 231 83 11 2 2147483648 2147483668 as_b577 Eb_b577 f_b577 rs_b577 (e2_orG 231 83 11 2 2147483648 2147483668 as_b576 Eb_b576 f_b576 rs_b576 (e2_orG 231 83 11 2 2147483648 2147483668 as_b575 Eb_b575 f_b575 rs_b575 (e2_orG 231 83 11 2 2147483648 2147483668 as_b574 Eb_b574 f_b574 rs_b574 (e2_cal S_b600 I_b600 4000 1))))))))))))))))))))) (e2_fin rs_b600) e2x_230 (e2_bpL cl_b600_27) (e2_cutA cl_b600_27) 4000 (e2_seek e2x_230 49) al_b600_27 [] E_b600_27 h_b600_27 = true := by decide +kernel
set_option maxRecDepth 1000000 in
theorem ci_b600_27 : e2_idl 2 (al_b600_27.set 2 (9, 0, 0)) = true := by decide +kernel
set_option maxRecDepth 1000000 in
theorem cj_b600_27 : e2_idh 2 8 h_b600_27 = true := by decide +kernel
noncomputable def cl_b600_28 : List (Nat × e2_S) := [(49, e2_cutL (al_b600_27.set 2 (12, 10, 2147483647)) 2 (E_b600_27.take 2) h_b600_27),
  (55, e2_cutL (al_b600_28.set 3 (13, 11, 2147483657)) 3 (E_b600_28.take 3) h_b600_28)]
set_option maxRecDepth 1000000 in
theorem ck_b600_28 : e2_runM (e2_orG 231 83 11 2 2147483648 2147483668 as_b593 Eb_b593 f_b593 rs_b593 (e2_orG 231 83 11 2 2147483648 2147483668 as_b592 Eb_b592 f_b592 rs_b592 (e2_orG 231 83 11 2 2147483648 2147483668 as_b591 Eb_b591 f_b591 rs_b591 (e2_orG 231 83 11 2 2147483648 2147483668 as_b590 Eb_b590 f_b590 rs_b590 (e2_orG 231 83 11 2 2147483648 2147483668 as_b589 Eb_b589 f_b589 rs_b589 (e2_orG 231 83 11 2 2147483648 2147483668 as_b588 Eb_b588 f_b588 rs_b588 (e2_orG 231 83 11 2 2147483648 2147483668 as_b587 Eb_b587 f_b587 rs_b587 (e2_orG 231 83 11 2 2147483648 2147483668 as_b586 Eb_b586 f_b586 rs_b586 (e2_orG 231 83 11 2 2147483648 2147483668 as_b585 Eb_b585 f_b585 rs_b585 (e2_orG 231 83 11 2 2147483648 2147483668 as_b584 Eb_b584 f_b584 rs_b584 (e2_orG 231 83 11 2 2147483648 2147483668 as_b583 Eb_b583 f_b583 rs_b583 (e2_orG 231 83 11 2 2147483648 2147483668 as_b582 Eb_b582 f_b582 rs_b582 (e2_orG 231 83 11 2 2147483648 2147483668 as_b581 Eb_b581 f_b581 rs_b581 (e2_orG 231 83 11 2 2147483648 2147483668 as_b580 Eb_b580 f_b580 rs_b580 (e2_orG 231 83 11 2 2147483648 2147483668 as_b579 Eb_b579 f_b579 rs_b579 (e2_orG 231 83 11 2 2147483648 2147483668 as_b578 Eb_b578 f_b578 rs_b578 (e2_orG 231 83 11 2 2147483648 2147483668 as_b577 Eb_b577 f_b577 rs_b577 (e2_orG 231 83 11 2 2147483648 2147483668 as_b576 Eb_b576 f_b576 rs_b576 (e2_orG 231 83 11 2 2147483648 2147483668 as_b575 Eb_b575 f_b575 rs_b575 (e2_orG 231 83 11 2 2147483648 2147483668 as_b574 Eb_b574 f_b574 rs_b574 (e2_cal S_b600 I_b600 4000 1))))))))))))))))))))) (e2_fin rs_b600) e2x_230 (e2_bpL cl_b600_28) (e2_cutA cl_b600_28) 4000 (e2_seek e2x_230 55) al_b600_28 [] E_b600_28 h_b600_28 = true := by decide +kernel
set_option maxRecDepth 1000000 in
theorem ci_b600_28 : e2_idl 3 (al_b600_28.set 3 (9, 0, 0)) = true := by decide +kernel
set_option maxRecDepth 1000000 in
theorem cj_b600_28 : e2_idh 3 8 h_b600_28 = true := by decide +kernel
set_option maxRecDepth 1000000 in
theorem ck_b600_u120 : e2_cutsB (e2_orG 231 83 11 2 2147483648 2147483668 as_b593 Eb_b593 f_b593 rs_b593 (e2_orG 231 83 11 2 2147483648 2147483668 as_b592 Eb_b592 f_b592 rs_b592 (e2_orG 231 83 11 2 2147483648 2147483668 as_b591 Eb_b591 f_b591 rs_b591 (e2_orG 231 83 11 2 2147483648 2147483668 as_b590 Eb_b590 f_b590 rs_b590 (e2_orG 231 83 11 2 2147483648 2147483668 as_b589 Eb_b589 f_b589 rs_b589 (e2_orG 231 83 11 2 2147483648 2147483668 as_b588 Eb_b588 f_b588 rs_b588 (e2_orG 231 83 11 2 2147483648 2147483668 as_b587 Eb_b587 f_b587 rs_b587 (e2_orG 231 83 11 2 2147483648 2147483668 as_b586 Eb_b586 f_b586 rs_b586 (e2_orG 231 83 11 2 2147483648 2147483668 as_b585 Eb_b585 f_b585 rs_b585 (e2_orG 231 83 11 2 2147483648 2147483668 as_b584 Eb_b584 f_b584 rs_b584 (e2_orG 231 83 11 2 2147483648 2147483668 as_b583 Eb_b583 f_b583 rs_b583 (e2_orG 231 83 11 2 2147483648 2147483668 as_b582 Eb_b582 f_b582 rs_b582 (e2_orG 231 83 11 2 2147483648 2147483668 as_b581 Eb_b581 f_b581 rs_b581 (e2_orG 231 83 11 2 2147483648 2147483668 as_b580 Eb_b580 f_b580 rs_b580 (e2_orG 231 83 11 2 2147483648 2147483668 as_b579 Eb_b579 f_b579 rs_b579 (e2_orG 231 83 11 2 2147483648 2147483668 as_b578 Eb_b578 f_b578 rs_b578 (e2_orG 231 83 11 2 2147483648 2147483668 as_b577 Eb_b577 f_b577 rs_b577 (e2_orG 231 83 11 2 2147483648 2147483668 as_b576 Eb_b576 f_b576 rs_b576 (e2_orG 231 83 11 2 2147483648 2147483668 as_b575 Eb_b575 f_b575 rs_b575 (e2_orG 231 83 11 2 2147483648 2147483668 as_b574 Eb_b574 f_b574 rs_b574 (e2_cal S_b600 I_b600 4000 1))))))))))))))))))))) (e2_fin rs_b600) e2x_230 120 4000 cu_b600_120 = true := by decide +kernel
set_option maxRecDepth 1000000 in
theorem cs_b600 (hen : en_ok) (l : Launch) : e2_smOk l 5 s_b600 := by
  refine e2_conC (H := 4) (C := evd_230) (call := (e2_orG 231 83 11 2 2147483648 2147483668 as_b593 Eb_b593 f_b593 rs_b593 (e2_orG 231 83 11 2 2147483648 2147483668 as_b592 Eb_b592 f_b592 rs_b592 (e2_orG 231 83 11 2 2147483648 2147483668 as_b591 Eb_b591 f_b591 rs_b591 (e2_orG 231 83 11 2 2147483648 2147483668 as_b590 Eb_b590 f_b590 rs_b590 (e2_orG 231 83 11 2 2147483648 2147483668 as_b589 Eb_b589 f_b589 rs_b589 (e2_orG 231 83 11 2 2147483648 2147483668 as_b588 Eb_b588 f_b588 rs_b588 (e2_orG 231 83 11 2 2147483648 2147483668 as_b587 Eb_b587 f_b587 rs_b587 (e2_orG 231 83 11 2 2147483648 2147483668 as_b586 Eb_b586 f_b586 rs_b586 (e2_orG 231 83 11 2 2147483648 2147483668 as_b585 Eb_b585 f_b585 rs_b585 (e2_orG 231 83 11 2 2147483648 2147483668 as_b584 Eb_b584 f_b584 rs_b584 (e2_orG 231 83 11 2 2147483648 2147483668 as_b583 Eb_b583 f_b583 rs_b583 (e2_orG 231 83 11 2 2147483648 2147483668 as_b582 Eb_b582 f_b582 rs_b582 (e2_orG 231 83 11 2 2147483648 2147483668 as_b581 Eb_b581 f_b581 rs_b581 (e2_orG 231 83 11 2 2147483648 2147483668 as_b580 Eb_b580 f_b580 rs_b580 (e2_orG 231 83 11 2 2147483648 2147483668 as_b579 Eb_b579 f_b579 rs_b579 (e2_orG 231 83 11 2 2147483648 2147483668 as_b578 Eb_b578 f_b578 rs_b578 (e2_orG 231 83 11 2 2147483648 2147483668 as_b577 Eb_b577 f_b577 rs_b577 (e2_orG 231 83 11 2 2147483648 2147483668 as_b576 Eb_b576 f_b576 rs_b576 (e2_orG 231 83 11 2 2147483648 2147483668 as_b575 Eb_b575 f_b575 rs_b575 (e2_orG 231 83 11 2 2147483648 2147483668 as_b574 Eb_b574 f_b574 rs_b574 (e2_cal S_b600 I_b600 4000 1)))))))))))))))))))))) ei_230 (fun d hd => (e2_orG_ok (k0 := 231) (a := 83) (j := 11) (n := 2) (lo := 2147483648) (hi := 2147483668) (as0 := as_b593) (Eb := Eb_b593) (f := f_b593) (res := rs_b593) (e2_orG_ok (k0 := 231) (a := 83) (j := 11) (n := 2) (lo := 2147483648) (hi := 2147483668) (as0 := as_b592) (Eb := Eb_b592) (f := f_b592) (res := rs_b592) (e2_orG_ok (k0 := 231) (a := 83) (j := 11) (n := 2) (lo := 2147483648) (hi := 2147483668) (as0 := as_b591) (Eb := Eb_b591) (f := f_b591) (res := rs_b591) (e2_orG_ok (k0 := 231) (a := 83) (j := 11) (n := 2) (lo := 2147483648) (hi := 2147483668) (as0 := as_b590) (Eb := Eb_b590) (f := f_b590) (res := rs_b590) (e2_orG_ok (k0 := 231) (a := 83) (j := 11) (n := 2) (lo := 2147483648) (hi := 2147483668) (as0 := as_b589) (Eb := Eb_b589) (f := f_b589) (res := rs_b589) (e2_orG_ok (k0 := 231) (a := 83) (j := 11) (n := 2) (lo := 2147483648) (hi := 2147483668) (as0 := as_b588) (Eb := Eb_b588) (f := f_b588) (res := rs_b588) (e2_orG_ok (k0 := 231) (a := 83) (j := 11) (n := 2) (lo := 2147483648) (hi := 2147483668) (as0 := as_b587) (Eb := Eb_b587) (f := f_b587) (res := rs_b587) (e2_orG_ok (k0 := 231) (a := 83) (j := 11) (n := 2) (lo := 2147483648) (hi := 2147483668) (as0 := as_b586) (Eb := Eb_b586) (f := f_b586) (res := rs_b586) (e2_orG_ok (k0 := 231) (a := 83) (j := 11) (n := 2) (lo := 2147483648) (hi := 2147483668) (as0 := as_b585) (Eb := Eb_b585) (f := f_b585) (res := rs_b585) (e2_orG_ok (k0 := 231) (a := 83) (j := 11) (n := 2) (lo := 2147483648) (hi := 2147483668) (as0 := as_b584) (Eb := Eb_b584) (f := f_b584) (res := rs_b584) (e2_orG_ok (k0 := 231) (a := 83) (j := 11) (n := 2) (lo := 2147483648) (hi := 2147483668) (as0 := as_b583) (Eb := Eb_b583) (f := f_b583) (res := rs_b583) (e2_orG_ok (k0 := 231) (a := 83) (j := 11) (n := 2) (lo := 2147483648) (hi := 2147483668) (as0 := as_b582) (Eb := Eb_b582) (f := f_b582) (res := rs_b582) (e2_orG_ok (k0 := 231) (a := 83) (j := 11) (n := 2) (lo := 2147483648) (hi := 2147483668) (as0 := as_b581) (Eb := Eb_b581) (f := f_b581) (res := rs_b581) (e2_orG_ok (k0 := 231) (a := 83) (j := 11) (n := 2) (lo := 2147483648) (hi := 2147483668) (as0 := as_b580) (Eb := Eb_b580) (f := f_b580) (res := rs_b580) (e2_orG_ok (k0 := 231) (a := 83) (j := 11) (n := 2) (lo := 2147483648) (hi := 2147483668) (as0 := as_b579) (Eb := Eb_b579) (f := f_b579) (res := rs_b579) (e2_orG_ok (k0 := 231) (a := 83) (j := 11) (n := 2) (lo := 2147483648) (hi := 2147483668) (as0 := as_b578) (Eb := Eb_b578) (f := f_b578) (res := rs_b578) (e2_orG_ok (k0 := 231) (a := 83) (j := 11) (n := 2) (lo := 2147483648) (hi := 2147483668) (as0 := as_b577) (Eb := Eb_b577) (f := f_b577) (res := rs_b577) (e2_orG_ok (k0 := 231) (a := 83) (j := 11) (n := 2) (lo := 2147483648) (hi := 2147483668) (as0 := as_b576) (Eb := Eb_b576) (f := f_b576) (res := rs_b576) (e2_orG_ok (k0 := 231) (a := 83) (j := 11) (n := 2) (lo := 2147483648) (hi := 2147483668) (as0 := as_b575) (Eb := Eb_b575) (f := f_b575) (res := rs_b575) (e2_orG_ok (k0 := 231) (a := 83) (j := 11) (n := 2) (lo := 2147483648) (hi := 2147483668) (as0 := as_b574) (Eb := Eb_b574) (f := f_b574) (res := rs_b574) (e2_cal_ok hen (e2_fa (cs_b554 hen l) (e2_fa (cs_b555 hen l) (e2_fa (cs_b556 hen l) (e2_fa (cs_b557 hen l) (e2_fa (cs_b558 hen l) (e2_fa (cs_b559 hen l) (e2_fa (cs_b560 hen l) (e2_fa (cs_b561 hen l) (e2_fa (cs_b562 hen l) (e2_fa (cs_b563 hen l) (e2_fa (cs_b564 hen l) (e2_fa (cs_b565 hen l) (e2_fa (cs_b566 hen l) (e2_fa (cs_b567 hen l) (e2_fa (cs_b568 hen l) (e2_fa (cs_b569 hen l) (e2_fa (cs_b570 hen l) (e2_fa (cs_b571 hen l) (e2_fa (cs_b572 hen l) (e2_fa (cs_b573 hen l) e2_fz)))))))))))))))))))) (e2_fa ein_216 (e2_fa ein_217 (e2_fa ein_227 e2_fz))) 1 d (by omega)) rfl (by decide +kernel) (fun M hM => (cs_b574 hen l).2 M hM d (by omega)) (e2_okGB_ok cog_b574)) rfl (by decide +kernel) (fun M hM => (cs_b575 hen l).2 M hM d (by omega)) (e2_okGB_ok cog_b575)) rfl (by decide +kernel) (fun M hM => (cs_b576 hen l).2 M hM d (by omega)) (e2_okGB_ok cog_b576)) rfl (by decide +kernel) (fun M hM => (cs_b577 hen l).2 M hM d (by omega)) (e2_okGB_ok cog_b577)) rfl (by decide +kernel) (fun M hM => (cs_b578 hen l).2 M hM d (by omega)) (e2_okGB_ok cog_b578)) rfl (by decide +kernel) (fun M hM => (cs_b579 hen l).2 M hM d (by omega)) (e2_okGB_ok cog_b579)) rfl (by decide +kernel) (fun M hM => (cs_b580 hen l).2 M hM d (by omega)) (e2_okGB_ok cog_b580)) rfl (by decide +kernel) (fun M hM => (cs_b581 hen l).2 M hM d (by omega)) (e2_okGB_ok cog_b581)) rfl (by decide +kernel) (fun M hM => (cs_b582 hen l).2 M hM d (by omega)) (e2_okGB_ok cog_b582)) rfl (by decide +kernel) (fun M hM => (cs_b583 hen l).2 M hM d (by omega)) (e2_okGB_ok cog_b583)) rfl (by decide +kernel) (fun M hM => (cs_b584 hen l).2 M hM d (by omega)) (e2_okGB_ok cog_b584)) rfl (by decide +kernel) (fun M hM => (cs_b585 hen l).2 M hM d (by omega)) (e2_okGB_ok cog_b585)) rfl (by decide +kernel) (fun M hM => (cs_b586 hen l).2 M hM d (by omega)) (e2_okGB_ok cog_b586)) rfl (by decide +kernel) (fun M hM => (cs_b587 hen l).2 M hM d (by omega)) (e2_okGB_ok cog_b587)) rfl (by decide +kernel) (fun M hM => (cs_b588 hen l).2 M hM d (by omega)) (e2_okGB_ok cog_b588)) rfl (by decide +kernel) (fun M hM => (cs_b589 hen l).2 M hM d (by omega)) (e2_okGB_ok cog_b589)) rfl (by decide +kernel) (fun M hM => (cs_b590 hen l).2 M hM d (by omega)) (e2_okGB_ok cog_b590)) rfl (by decide +kernel) (fun M hM => (cs_b591 hen l).2 M hM d (by omega)) (e2_okGB_ok cog_b591)) rfl (by decide +kernel) (fun M hM => (cs_b592 hen l).2 M hM d (by omega)) (e2_okGB_ok cog_b592)) rfl (by decide +kernel) (fun M hM => (cs_b593 hen l).2 M hM d (by omega)) (e2_okGB_ok cog_b593))) (by decide) co_b600 fun M d _ hC hcall p e R s m args below meth c Q D cA A ads r0 ha hl0 => ?_
  have EN_120 := e2_cutS_ok (bp := 120) (cuts := cu_b600_120) (e2_cuts_len hl0 (by decide +kernel)) (e2_cuts_ok hen ha hcall (hC [76, 192, 195]) (X := e2x_230) ex2_230 (e2_cuts_len hl0 (by decide +kernel)) ck_b600_u120)
  have L_27 : e2_gdM M p l e R s m args below meth c Q D cA A ads r0 49 al_b600_27 [] E_b600_27 h_b600_27 := by
    refine e2_indD (u := 2) (j := 2) (lo := 2147483647) (hi := 2147483667) hl0 (by decide) rfl rfl rfl ci_b600_27 cj_b600_27 ?_
    intro r_27 k_27 hk_27 hp_27 hs_27 hn_27
    have hl_27 : r_27.length ≤ 3 := hs_27.len rfl
    have ha_27 := ha.ext hp_27
    have L_28 : e2_gdM M p l e R s m args below meth c Q D cA A ads r_27 55 al_b600_28 [] E_b600_28 h_b600_28 := by
      refine e2_indL (u := 3) (j := 3) (lo := 2147483648) (hi := 2147483657) (b := 3) (dd := 0) hl_27 (by decide) rfl rfl (Or.inr ⟨rfl, rfl⟩) rfl ci_b600_28 cj_b600_28 ?_
      intro r_28 k_28 hk_28 hp_28 hs_28 hn_28
      have hl_28 : r_28.length ≤ 4 := hs_28.len rfl
      have ha_28 := ha_27.ext hp_28
      exact e2_fromM hen ha_28 hcall (e2_cutA_ok (e2_fa (fun al st E h hc => (hn_27 al st E h hc).ext hp_28) (e2_fa (fun al st E h hc => hn_28 al st E h hc) e2_fz))) (hC [76, 192, 195]) (X := e2x_230) ex2_230 55 ck_b600_28
    have EN_28 := e2_entL (u := 3) (j := 3) (lo := 2147483648) (hi := 2147483657) hl_27 rfl rfl rfl ci_b600_28 cj_b600_28 L_28
    exact e2_fromM hen ha_27 hcall (e2_cutA_ok (e2_fa (fun al st E h hc => (EN_120 al st E h hc).ext hp_27) (e2_fa (fun al st E h hc => EN_28 al st E h hc) e2_fz))) (hC [76, 192, 195]) (X := e2x_230) ex2_230 49 ck_b600_27
  have EN_27 := e2_entL (u := 2) (j := 2) (lo := 2147483647) (hi := 2147483667) hl0 rfl rfl rfl ci_b600_27 cj_b600_27 L_27
  have L_26 : e2_gdM M p l e R s m args below meth c Q D cA A ads r0 2 al_b600_26 [] E_b600_26 h_b600_26 := by
    refine e2_indL (u := 2) (j := 2) (lo := 2147483648) (hi := 2147483657) (b := 2) (dd := 0) hl0 (by decide) rfl rfl (Or.inr ⟨rfl, rfl⟩) rfl ci_b600_26 cj_b600_26 ?_
    intro r_26 k_26 hk_26 hp_26 hs_26 hn_26
    have hl_26 : r_26.length ≤ 3 := hs_26.len rfl
    have ha_26 := ha.ext hp_26
    exact e2_fromM hen ha_26 hcall (e2_cutA_ok (e2_fa (fun al st E h hc => hn_26 al st E h hc) (e2_fa (fun al st E h hc => (EN_27 al st E h hc).ext hp_26) e2_fz))) (hC [76, 192, 195]) (X := e2x_230) ex2_230 2 ck_b600_26
  have EN_26 := e2_entL (u := 2) (j := 2) (lo := 2147483648) (hi := 2147483657) hl0 rfl rfl rfl ci_b600_26 cj_b600_26 L_26
  exact e2_from hen ha hcall (e2_cutA_ok (e2_fa (fun al st E h hc => EN_26 al st E h hc) e2_fz)) (hC [76, 192, 195]) (X := e2x_230) ex2_230 0 ck_b600_e
/-! b601 X10_read -/
def as_b601 : List ev_V := [(2, 83, 0), (11, 0, 4294967295)]
def E_b601 : e2_E := [(2147483648, 2147583648, 0, 0), (2147483655, 2147483655, 1, 0)]
def bc290 : ev_C := (50, [(11, 2147483649, 2147483654), (11, 2147483649, 2147483654), (11, 2147483649, 2147483654), (11, 2147483649, 2147483654), (11, 2147483649, 2147483654), (11, 2147483649, 2147483654), (11, 2147483649, 2147483654), (11, 2147483648, 2147483654), (11, 2147483648, 2147483654), (11, 2147483648, 2147483654), (11, 2147483648, 2147483654), (11, 2147483648, 2147483654), (11, 2147483648, 2147483654), (11, 2147483648, 2147483654), (11, 2147483648, 2147483654), (11, 2147483648, 2147483654)])
def bn4056 : e2_Q1 := (bc290, bc3)
def bn4057 : e2_Q2 := (bn130, bn4056)
def bn4058 : e2_Q3 := (bn129, bn4057)
def bn4059 : e2_Q4 := (bn4058, bn3573)
def bn4060 : e2_Q5 := (bn4059, bn156)
def bn4061 : e2_Q6 := (bn4060, bn3624)
def bn4062 : e2_Q7 := (bn4061, bn3594)
def bn4063 : e2_Q8 := (bn3614, bn4062)
noncomputable def f_b601 : ev_H := (bn4063 : e2_Q8)
noncomputable def q_b601_0 : ev_H := (bn4063 : e2_Q8)
noncomputable def rs_b601 : e2_Rs := [((11, 2147483647, 2147483668), q_b601_0)]
noncomputable def s_b601 : e2_Sm := (230, as_b601, E_b601, f_b601, rs_b601)
noncomputable def S_b601 : List e2_Sm := [s_b554, s_b555, s_b556, s_b557, s_b558, s_b559, s_b560, s_b561, s_b562, s_b563, s_b564, s_b565, s_b566, s_b567, s_b568, s_b569, s_b570, s_b571, s_b572, s_b573]
noncomputable def I_b601 : List e2_In := [(216, 1, e2x_216), (217, 1, e2x_217), (227, 2, e2x_227)]
set_option maxRecDepth 1000000 in
theorem co_b601 : e2_okSB E_b601.length as_b601 f_b601 rs_b601 = true := by decide +kernel
def al_b601_26 : List ev_V := [(2, 83, 0), (11, 0, 4294967295), (1, 2, 4294967296), (9, 0, 0), (9, 0, 0)]
def E_b601_26 : e2_E := [(2147483648, 2147583648, 0, 0), (2147483655, 2147483655, 1, 0), (2147483648, 2147483657, 2, 0)]
noncomputable def h_b601_26 : ev_H := (bn4063 : e2_Q8)
def al_b601_27 : List ev_V := [(2, 83, 0), (11, 0, 4294967295), (1, 2, 4294967296), (9, 0, 0), (9, 0, 0)]
def E_b601_27 : e2_E := [(2147483648, 2147583648, 0, 0), (2147483655, 2147483655, 1, 0), (2147483647, 2147483667, 2, 0)]
noncomputable def h_b601_27 : ev_H := (bn4063 : e2_Q8)
def al_b601_28 : List ev_V := [(2, 83, 0), (11, 0, 4294967295), (1, 2, 4294967296), (1, 3, 4294967296), (9, 0, 0)]
def E_b601_28 : e2_E := [(2147483648, 2147583648, 0, 0), (2147483655, 2147483655, 1, 0), (2147483648, 2147483667, 2, 0), (2147483648, 2147483657, 3, 0)]
noncomputable def h_b601_28 : ev_H := (bn4063 : e2_Q8)
def bn4064 : e2_Q7 := (bn4061, bn3633)
def bn4065 : e2_Q8 := (bn3614, bn4064)
noncomputable def h_b601_0 : ev_H := (bn4065 : e2_Q8)
def bn4066 : e2_Q7 := (bn4061, bn3651)
def bn4067 : e2_Q8 := (bn3614, bn4066)
noncomputable def h_b601_1 : ev_H := (bn4067 : e2_Q8)
def bn4068 : e2_Q7 := (bn4061, bn3659)
def bn4069 : e2_Q8 := (bn3614, bn4068)
noncomputable def h_b601_2 : ev_H := (bn4069 : e2_Q8)
def bn4070 : e2_Q7 := (bn4061, bn3667)
def bn4071 : e2_Q8 := (bn3614, bn4070)
noncomputable def h_b601_3 : ev_H := (bn4071 : e2_Q8)
def bn4072 : e2_Q7 := (bn4061, bn3675)
def bn4073 : e2_Q8 := (bn3614, bn4072)
noncomputable def h_b601_4 : ev_H := (bn4073 : e2_Q8)
def bn4074 : e2_Q7 := (bn4061, bn3683)
def bn4075 : e2_Q8 := (bn3614, bn4074)
noncomputable def h_b601_5 : ev_H := (bn4075 : e2_Q8)
def bn4076 : e2_Q7 := (bn4061, bn3691)
def bn4077 : e2_Q8 := (bn3614, bn4076)
noncomputable def h_b601_6 : ev_H := (bn4077 : e2_Q8)
def bn4078 : e2_Q7 := (bn4061, bn3699)
def bn4079 : e2_Q8 := (bn3614, bn4078)
noncomputable def h_b601_7 : ev_H := (bn4079 : e2_Q8)
def bn4080 : e2_Q7 := (bn4061, bn3707)
def bn4081 : e2_Q8 := (bn3614, bn4080)
noncomputable def h_b601_8 : ev_H := (bn4081 : e2_Q8)
def bn4082 : e2_Q7 := (bn4061, bn3715)
def bn4083 : e2_Q8 := (bn3614, bn4082)
noncomputable def h_b601_9 : ev_H := (bn4083 : e2_Q8)
def bn4084 : e2_Q7 := (bn4061, bn3723)
def bn4085 : e2_Q8 := (bn3614, bn4084)
noncomputable def h_b601_10 : ev_H := (bn4085 : e2_Q8)
def bn4086 : e2_Q7 := (bn4061, bn3731)
def bn4087 : e2_Q8 := (bn3614, bn4086)
noncomputable def h_b601_11 : ev_H := (bn4087 : e2_Q8)
def bn4088 : e2_Q7 := (bn4061, bn3739)
def bn4089 : e2_Q8 := (bn3614, bn4088)
noncomputable def h_b601_12 : ev_H := (bn4089 : e2_Q8)
def bn4090 : e2_Q7 := (bn4061, bn3747)
def bn4091 : e2_Q8 := (bn3614, bn4090)
noncomputable def h_b601_13 : ev_H := (bn4091 : e2_Q8)
def bn4092 : e2_Q7 := (bn4061, bn3755)
def bn4093 : e2_Q8 := (bn3614, bn4092)
noncomputable def h_b601_14 : ev_H := (bn4093 : e2_Q8)
def bn4094 : e2_Q7 := (bn4061, bn3763)
def bn4095 : e2_Q8 := (bn3614, bn4094)
noncomputable def h_b601_15 : ev_H := (bn4095 : e2_Q8)
def bn4096 : e2_Q7 := (bn4061, bn3771)
def bn4097 : e2_Q8 := (bn3614, bn4096)
noncomputable def h_b601_16 : ev_H := (bn4097 : e2_Q8)
def bn4098 : e2_Q7 := (bn4061, bn3779)
def bn4099 : e2_Q8 := (bn3614, bn4098)
noncomputable def h_b601_17 : ev_H := (bn4099 : e2_Q8)
def bn4100 : e2_Q7 := (bn4061, bn3787)
def bn4101 : e2_Q8 := (bn3614, bn4100)
noncomputable def h_b601_18 : ev_H := (bn4101 : e2_Q8)
def bn4102 : e2_Q7 := (bn4061, bn3795)
def bn4103 : e2_Q8 := (bn3614, bn4102)
noncomputable def h_b601_19 : ev_H := (bn4103 : e2_Q8)
noncomputable def h_b601_20 : ev_H := (bn4063 : e2_Q8)
def bn4104 : e2_Q7 := (bn4061, bn3803)
def bn4105 : e2_Q8 := (bn3614, bn4104)
noncomputable def h_b601_21 : ev_H := (bn4105 : e2_Q8)
noncomputable def h_b601_22 : ev_H := (bn4105 : e2_Q8)
noncomputable def h_b601_23 : ev_H := (bn4105 : e2_Q8)
noncomputable def h_b601_24 : ev_H := (bn4105 : e2_Q8)
noncomputable def h_b601_25 : ev_H := (bn4105 : e2_Q8)
noncomputable def cu_b601_120 : List e2_Cu := [([(2, 83, 0), (11, 0, 4294967295), (0, 0, 0), (0, 8, 0), (9, 0, 0)], [(2147483648, 2147583648, 0, 0), (2147483655, 2147483655, 1, 0)], h_b601_0),
  ([(2, 83, 0), (11, 0, 4294967295), (0, 1, 0), (11, 2147483648, 2147483656), (11, 2147483647, 2147483654)], [(2147483648, 2147583648, 0, 0), (2147483655, 2147483655, 1, 0)], h_b601_1),
  ([(2, 83, 0), (11, 0, 4294967295), (0, 2, 0), (11, 2147483648, 2147483656), (11, 2147483647, 2147483654)], [(2147483648, 2147583648, 0, 0), (2147483655, 2147483655, 1, 0)], h_b601_2),
  ([(2, 83, 0), (11, 0, 4294967295), (0, 3, 0), (11, 2147483648, 2147483656), (11, 2147483647, 2147483654)], [(2147483648, 2147583648, 0, 0), (2147483655, 2147483655, 1, 0)], h_b601_3),
  ([(2, 83, 0), (11, 0, 4294967295), (0, 4, 0), (11, 2147483648, 2147483656), (11, 2147483647, 2147483654)], [(2147483648, 2147583648, 0, 0), (2147483655, 2147483655, 1, 0)], h_b601_4),
  ([(2, 83, 0), (11, 0, 4294967295), (0, 5, 0), (11, 2147483648, 2147483656), (11, 2147483647, 2147483654)], [(2147483648, 2147583648, 0, 0), (2147483655, 2147483655, 1, 0)], h_b601_5),
  ([(2, 83, 0), (11, 0, 4294967295), (0, 6, 0), (11, 2147483648, 2147483656), (11, 2147483647, 2147483654)], [(2147483648, 2147583648, 0, 0), (2147483655, 2147483655, 1, 0)], h_b601_6),
  ([(2, 83, 0), (11, 0, 4294967295), (0, 7, 0), (11, 2147483648, 2147483656), (11, 2147483647, 2147483654)], [(2147483648, 2147583648, 0, 0), (2147483655, 2147483655, 1, 0)], h_b601_7),
  ([(2, 83, 0), (11, 0, 4294967295), (0, 8, 0), (11, 2147483648, 2147483656), (11, 2147483647, 2147483654)], [(2147483648, 2147583648, 0, 0), (2147483655, 2147483655, 1, 0)], h_b601_8),
  ([(2, 83, 0), (11, 0, 4294967295), (0, 9, 0), (11, 2147483648, 2147483656), (11, 2147483647, 2147483654)], [(2147483648, 2147583648, 0, 0), (2147483655, 2147483655, 1, 0)], h_b601_9),
  ([(2, 83, 0), (11, 0, 4294967295), (0, 10, 0), (11, 2147483648, 2147483656), (11, 2147483647, 2147483654)], [(2147483648, 2147583648, 0, 0), (2147483655, 2147483655, 1, 0)], h_b601_10),
  ([(2, 83, 0), (11, 0, 4294967295), (0, 11, 0), (11, 2147483648, 2147483656), (11, 2147483647, 2147483654)], [(2147483648, 2147583648, 0, 0), (2147483655, 2147483655, 1, 0)], h_b601_11),
  ([(2, 83, 0), (11, 0, 4294967295), (0, 12, 0), (11, 2147483648, 2147483656), (11, 2147483647, 2147483654)], [(2147483648, 2147583648, 0, 0), (2147483655, 2147483655, 1, 0)], h_b601_12),
  ([(2, 83, 0), (11, 0, 4294967295), (0, 13, 0), (11, 2147483648, 2147483656), (11, 2147483647, 2147483654)], [(2147483648, 2147583648, 0, 0), (2147483655, 2147483655, 1, 0)], h_b601_13),
  ([(2, 83, 0), (11, 0, 4294967295), (0, 14, 0), (11, 2147483648, 2147483656), (11, 2147483647, 2147483654)], [(2147483648, 2147583648, 0, 0), (2147483655, 2147483655, 1, 0)], h_b601_14),
  ([(2, 83, 0), (11, 0, 4294967295), (0, 15, 0), (11, 2147483648, 2147483656), (11, 2147483647, 2147483654)], [(2147483648, 2147583648, 0, 0), (2147483655, 2147483655, 1, 0)], h_b601_15),
  ([(2, 83, 0), (11, 0, 4294967295), (0, 16, 0), (11, 2147483648, 2147483656), (11, 2147483647, 2147483654)], [(2147483648, 2147583648, 0, 0), (2147483655, 2147483655, 1, 0)], h_b601_16),
  ([(2, 83, 0), (11, 0, 4294967295), (0, 17, 0), (11, 2147483648, 2147483656), (11, 2147483647, 2147483654)], [(2147483648, 2147583648, 0, 0), (2147483655, 2147483655, 1, 0)], h_b601_17),
  ([(2, 83, 0), (11, 0, 4294967295), (0, 18, 0), (11, 2147483648, 2147483656), (11, 2147483647, 2147483654)], [(2147483648, 2147583648, 0, 0), (2147483655, 2147483655, 1, 0)], h_b601_18),
  ([(2, 83, 0), (11, 0, 4294967295), (0, 19, 0), (11, 2147483648, 2147483656), (11, 2147483647, 2147483654)], [(2147483648, 2147583648, 0, 0), (2147483655, 2147483655, 1, 0)], h_b601_19),
  ([(2, 83, 0), (11, 0, 4294967295), (0, 20, 0), (11, 2147483648, 2147483656), (11, 2147483647, 2147483654)], [(2147483648, 2147583648, 0, 0), (2147483655, 2147483655, 1, 0)], h_b601_20),
  ([(2, 83, 0), (11, 0, 4294967295), (0, 21, 0), (11, 2147483648, 2147483654), (11, 2147483648, 2147483654)], [(2147483648, 2147583648, 0, 0), (2147483655, 2147483655, 1, 0)], h_b601_21),
  ([(2, 83, 0), (11, 0, 4294967295), (0, 22, 0), (11, 2147483648, 2147483654), (11, 2147483648, 2147483654)], [(2147483648, 2147583648, 0, 0), (2147483655, 2147483655, 1, 0)], h_b601_22),
  ([(2, 83, 0), (11, 0, 4294967295), (0, 23, 0), (11, 2147483648, 2147483654), (11, 2147483648, 2147483654)], [(2147483648, 2147583648, 0, 0), (2147483655, 2147483655, 1, 0)], h_b601_23),
  ([(2, 83, 0), (11, 0, 4294967295), (0, 24, 0), (11, 2147483648, 2147483654), (11, 2147483648, 2147483654)], [(2147483648, 2147583648, 0, 0), (2147483655, 2147483655, 1, 0)], h_b601_24),
  ([(2, 83, 0), (11, 0, 4294967295), (0, 25, 0), (11, 2147483648, 2147483654), (11, 2147483648, 2147483654)], [(2147483648, 2147583648, 0, 0), (2147483655, 2147483655, 1, 0)], h_b601_25)]
noncomputable def cl_b601_e : List (Nat × e2_S) := [(2, e2_cutL (al_b601_26.set 2 (11, 2147483648, 2147483657)) 2 (E_b601_26.take 2) h_b601_26)]
set_option maxRecDepth 1000000 in
theorem ck_b601_e : e2_run (e2_orG 231 83 11 2 2147483648 2147483668 as_b593 Eb_b593 f_b593 rs_b593 (e2_orG 231 83 11 2 2147483648 2147483668 as_b592 Eb_b592 f_b592 rs_b592 (e2_orG 231 83 11 2 2147483648 2147483668 as_b591 Eb_b591 f_b591 rs_b591 (e2_orG 231 83 11 2 2147483648 2147483668 as_b590 Eb_b590 f_b590 rs_b590 (e2_orG 231 83 11 2 2147483648 2147483668 as_b589 Eb_b589 f_b589 rs_b589 (e2_orG 231 83 11 2 2147483648 2147483668 as_b588 Eb_b588 f_b588 rs_b588 (e2_orG 231 83 11 2 2147483648 2147483668 as_b587 Eb_b587 f_b587 rs_b587 (e2_orG 231 83 11 2 2147483648 2147483668 as_b586 Eb_b586 f_b586 rs_b586 (e2_orG 231 83 11 2 2147483648 2147483668 as_b585 Eb_b585 f_b585 rs_b585 (e2_orG 231 83 11 2 2147483648 2147483668 as_b584 Eb_b584 f_b584 rs_b584 (e2_orG 231 83 11 2 2147483648 2147483668 as_b583 Eb_b583 f_b583 rs_b583 (e2_orG 231 83 11 2 2147483648 2147483668 as_b582 Eb_b582 f_b582 rs_b582 (e2_orG 231 83 11 2 2147483648 2147483668 as_b581 Eb_b581 f_b581 rs_b581 (e2_orG 231 83 11 2 2147483648 2147483668 as_b580 Eb_b580 f_b580 rs_b580 (e2_orG 231 83 11 2 2147483648 2147483668 as_b579 Eb_b579 f_b579 rs_b579 (e2_orG 231 83 11 2 2147483648 2147483668 as_b578 Eb_b578 f_b578 rs_b578 (e2_orG 231 83 11 2 2147483648 2147483668 as_b577 Eb_b577 f_b577 rs_b577 (e2_orG 231 83 11 2 2147483648 2147483668 as_b576 Eb_b576 f_b576 rs_b576 (e2_orG 231 83 11 2 2147483648 2147483668 as_b575 Eb_b575 f_b575 rs_b575 (e2_orG 231 83 11 2 2147483648 2147483668 as_b574 Eb_b574 f_b574 rs_b574 (e2_cal S_b601 I_b601 4000 1))))))))))))))))))))) (e2_fin rs_b601) e2x_230 (e2_bpL cl_b601_e) (e2_cutA cl_b601_e) 4000 (e2_seek e2x_230 0) (e2_al 5 as_b601) [] E_b601 f_b601 = true := by decide +kernel
noncomputable def cl_b601_26 : List (Nat × e2_S) := [(2, e2_cutL (al_b601_26.set 2 (13, 10, 2147483657)) 2 (E_b601_26.take 2) h_b601_26),
  (49, e2_cutL (al_b601_27.set 2 (11, 2147483647, 2147483667)) 2 (E_b601_27.take 2) h_b601_27)]
set_option maxRecDepth 1000000 in
theorem ck_b601_26 : e2_runM (e2_orG 231 83 11 2 2147483648 2147483668 as_b593 Eb_b593 f_b593 rs_b593 (e2_orG 231 83 11 2 2147483648 2147483668 as_b592 Eb_b592 f_b592 rs_b592 (e2_orG 231 83 11 2 2147483648 2147483668 as_b591 Eb_b591 f_b591 rs_b591 (e2_orG 231 83 11 2 2147483648 2147483668 as_b590 Eb_b590 f_b590 rs_b590 (e2_orG 231 83 11 2 2147483648 2147483668 as_b589 Eb_b589 f_b589 rs_b589 (e2_orG 231 83 11 2 2147483648 2147483668 as_b588 Eb_b588 f_b588 rs_b588 (e2_orG 231 83 11 2 2147483648 2147483668 as_b587 Eb_b587 f_b587 rs_b587 (e2_orG 231 83 11 2 2147483648 2147483668 as_b586 Eb_b586 f_b586 rs_b586 (e2_orG 231 83 11 2 2147483648 2147483668 as_b585 Eb_b585 f_b585 rs_b585 (e2_orG 231 83 11 2 2147483648 2147483668 as_b584 Eb_b584 f_b584 rs_b584 (e2_orG 231 83 11 2 2147483648 2147483668 as_b583 Eb_b583 f_b583 rs_b583 (e2_orG 231 83 11 2 2147483648 2147483668 as_b582 Eb_b582 f_b582 rs_b582 (e2_orG 231 83 11 2 2147483648 2147483668 as_b581 Eb_b581 f_b581 rs_b581 (e2_orG 231 83 11 2 2147483648 2147483668 as_b580 Eb_b580 f_b580 rs_b580 (e2_orG 231 83 11 2 2147483648 2147483668 as_b579 Eb_b579 f_b579 rs_b579 (e2_orG 231 83 11 2 2147483648 2147483668 as_b578 Eb_b578 f_b578 rs_b578 (e2_orG 231 83 11 2 2147483648 2147483668 as_b577 Eb_b577 f_b577 rs_b577 (e2_orG 231 83 11 2 2147483648 2147483668 as_b576 Eb_b576 f_b576 rs_b576 (e2_orG 231 83 11 2 2147483648 2147483668 as_b575 Eb_b575 f_b575 rs_b575 (e2_orG 231 83 11 2 2147483648 2147483668 as_b574 Eb_b574 f_b574 rs_b574 (e2_cal S_b601 I_b601 4000 1))))))))))))))))))))) (e2_fin rs_b601) e2x_230 (e2_bpL cl_b601_26) (e2_cutA cl_b601_26) 4000 (e2_seek e2x_230 2) al_b601_26 [] E_b601_26 h_b601_26 = true := by decide +kernel
set_option maxRecDepth 1000000 in
theorem ci_b601_26 : e2_idl 2 (al_b601_26.set 2 (9, 0, 0)) = true := by decide +kernel
set_option maxRecDepth 1000000 in
theorem cj_b601_26 : e2_idh 2 8 h_b601_26 = true := by decide +kernel
noncomputable def cl_b601_27 : List (Nat × e2_S) := [(120, e2_cutS cu_b601_120),
  (55, e2_cutL (al_b601_28.set 3 (11, 2147483648, 2147483657)) 3 (E_b601_28.take 3) h_b601_28)]
set_option maxRecDepth 1000000 in
theorem ck_b601_27 : e2_runM (e2_orG 231 83 11 2 2147483648 2147483668 as_b593 Eb_b593 f_b593 rs_b593 (e2_orG 231 83 11 2 2147483648 2147483668 as_b592 Eb_b592 f_b592 rs_b592 (e2_orG 231 83 11 2 2147483648 2147483668 as_b591 Eb_b591 f_b591 rs_b591 (e2_orG 231 83 11 2 2147483648 2147483668 as_b590 Eb_b590 f_b590 rs_b590 (e2_orG 231 83 11 2 2147483648 2147483668 as_b589 Eb_b589 f_b589 rs_b589 (e2_orG 231 83 11 2 2147483648 2147483668 as_b588 Eb_b588 f_b588 rs_b588 (e2_orG 231 83 11 2 2147483648 2147483668 as_b587 Eb_b587 f_b587 rs_b587 (e2_orG 231 83 11 2 2147483648 2147483668 as_b586 Eb_b586 f_b586 rs_b586 (e2_orG 231 83 11 2 2147483648 2147483668 as_b585 Eb_b585 f_b585 rs_b585 (e2_orG 231 83 11 2 2147483648 2147483668 as_b584 Eb_b584 f_b584 rs_b584 (e2_orG 231 83 11 2 2147483648 2147483668 as_b583 Eb_b583 f_b583 rs_b583 (e2_orG 231 83 11 2 2147483648 2147483668 as_b582 Eb_b582 f_b582 rs_b582 (e2_orG 231 83 11 2 2147483648 2147483668 as_b581 Eb_b581 f_b581 rs_b581 (e2_orG 231 83 11 2 2147483648 2147483668 as_b580 Eb_b580 f_b580 rs_b580 (e2_orG 231 83 11 2 2147483648 2147483668 as_b579 Eb_b579 f_b579 rs_b579 (e2_orG 231 83 11 2 2147483648 2147483668 as_b578 Eb_b578 f_b578 rs_b578 (e2_orG 231 83 11 2 2147483648 2147483668 as_b577 Eb_b577 f_b577 rs_b577 (e2_orG 231 83 11 2 2147483648 2147483668 as_b576 Eb_b576 f_b576 rs_b576 (e2_orG 231 83 11 2 2147483648 2147483668 as_b575 Eb_b575 f_b575 rs_b575 (e2_orG 231 83 11 2 2147483648 2147483668 as_b574 Eb_b574 f_b574 rs_b574 (e2_cal S_b601 I_b601 4000 1))))))))))))))))))))) (e2_fin rs_b601) e2x_230 (e2_bpL cl_b601_27) (e2_cutA cl_b601_27) 4000 (e2_seek e2x_230 49) al_b601_27 [] E_b601_27 h_b601_27 = true := by decide +kernel
set_option maxRecDepth 1000000 in
theorem ci_b601_27 : e2_idl 2 (al_b601_27.set 2 (9, 0, 0)) = true := by decide +kernel
set_option maxRecDepth 1000000 in
theorem cj_b601_27 : e2_idh 2 8 h_b601_27 = true := by decide +kernel
noncomputable def cl_b601_28 : List (Nat × e2_S) := [(49, e2_cutL (al_b601_27.set 2 (12, 10, 2147483647)) 2 (E_b601_27.take 2) h_b601_27),
  (55, e2_cutL (al_b601_28.set 3 (13, 11, 2147483657)) 3 (E_b601_28.take 3) h_b601_28)]
set_option maxRecDepth 1000000 in
theorem ck_b601_28 : e2_runM (e2_orG 231 83 11 2 2147483648 2147483668 as_b593 Eb_b593 f_b593 rs_b593 (e2_orG 231 83 11 2 2147483648 2147483668 as_b592 Eb_b592 f_b592 rs_b592 (e2_orG 231 83 11 2 2147483648 2147483668 as_b591 Eb_b591 f_b591 rs_b591 (e2_orG 231 83 11 2 2147483648 2147483668 as_b590 Eb_b590 f_b590 rs_b590 (e2_orG 231 83 11 2 2147483648 2147483668 as_b589 Eb_b589 f_b589 rs_b589 (e2_orG 231 83 11 2 2147483648 2147483668 as_b588 Eb_b588 f_b588 rs_b588 (e2_orG 231 83 11 2 2147483648 2147483668 as_b587 Eb_b587 f_b587 rs_b587 (e2_orG 231 83 11 2 2147483648 2147483668 as_b586 Eb_b586 f_b586 rs_b586 (e2_orG 231 83 11 2 2147483648 2147483668 as_b585 Eb_b585 f_b585 rs_b585 (e2_orG 231 83 11 2 2147483648 2147483668 as_b584 Eb_b584 f_b584 rs_b584 (e2_orG 231 83 11 2 2147483648 2147483668 as_b583 Eb_b583 f_b583 rs_b583 (e2_orG 231 83 11 2 2147483648 2147483668 as_b582 Eb_b582 f_b582 rs_b582 (e2_orG 231 83 11 2 2147483648 2147483668 as_b581 Eb_b581 f_b581 rs_b581 (e2_orG 231 83 11 2 2147483648 2147483668 as_b580 Eb_b580 f_b580 rs_b580 (e2_orG 231 83 11 2 2147483648 2147483668 as_b579 Eb_b579 f_b579 rs_b579 (e2_orG 231 83 11 2 2147483648 2147483668 as_b578 Eb_b578 f_b578 rs_b578 (e2_orG 231 83 11 2 2147483648 2147483668 as_b577 Eb_b577 f_b577 rs_b577 (e2_orG 231 83 11 2 2147483648 2147483668 as_b576 Eb_b576 f_b576 rs_b576 (e2_orG 231 83 11 2 2147483648 2147483668 as_b575 Eb_b575 f_b575 rs_b575 (e2_orG 231 83 11 2 2147483648 2147483668 as_b574 Eb_b574 f_b574 rs_b574 (e2_cal S_b601 I_b601 4000 1))))))))))))))))))))) (e2_fin rs_b601) e2x_230 (e2_bpL cl_b601_28) (e2_cutA cl_b601_28) 4000 (e2_seek e2x_230 55) al_b601_28 [] E_b601_28 h_b601_28 = true := by decide +kernel
set_option maxRecDepth 1000000 in
theorem ci_b601_28 : e2_idl 3 (al_b601_28.set 3 (9, 0, 0)) = true := by decide +kernel
set_option maxRecDepth 1000000 in
theorem cj_b601_28 : e2_idh 3 8 h_b601_28 = true := by decide +kernel
set_option maxRecDepth 1000000 in
theorem ck_b601_u120 : e2_cutsB (e2_orG 231 83 11 2 2147483648 2147483668 as_b593 Eb_b593 f_b593 rs_b593 (e2_orG 231 83 11 2 2147483648 2147483668 as_b592 Eb_b592 f_b592 rs_b592 (e2_orG 231 83 11 2 2147483648 2147483668 as_b591 Eb_b591 f_b591 rs_b591 (e2_orG 231 83 11 2 2147483648 2147483668 as_b590 Eb_b590 f_b590 rs_b590 (e2_orG 231 83 11 2 2147483648 2147483668 as_b589 Eb_b589 f_b589 rs_b589 (e2_orG 231 83 11 2 2147483648 2147483668 as_b588 Eb_b588 f_b588 rs_b588 (e2_orG 231 83 11 2 2147483648 2147483668 as_b587 Eb_b587 f_b587 rs_b587 (e2_orG 231 83 11 2 2147483648 2147483668 as_b586 Eb_b586 f_b586 rs_b586 (e2_orG 231 83 11 2 2147483648 2147483668 as_b585 Eb_b585 f_b585 rs_b585 (e2_orG 231 83 11 2 2147483648 2147483668 as_b584 Eb_b584 f_b584 rs_b584 (e2_orG 231 83 11 2 2147483648 2147483668 as_b583 Eb_b583 f_b583 rs_b583 (e2_orG 231 83 11 2 2147483648 2147483668 as_b582 Eb_b582 f_b582 rs_b582 (e2_orG 231 83 11 2 2147483648 2147483668 as_b581 Eb_b581 f_b581 rs_b581 (e2_orG 231 83 11 2 2147483648 2147483668 as_b580 Eb_b580 f_b580 rs_b580 (e2_orG 231 83 11 2 2147483648 2147483668 as_b579 Eb_b579 f_b579 rs_b579 (e2_orG 231 83 11 2 2147483648 2147483668 as_b578 Eb_b578 f_b578 rs_b578 (e2_orG 231 83 11 2 2147483648 2147483668 as_b577 Eb_b577 f_b577 rs_b577 (e2_orG 231 83 11 2 2147483648 2147483668 as_b576 Eb_b576 f_b576 rs_b576 (e2_orG 231 83 11 2 2147483648 2147483668 as_b575 Eb_b575 f_b575 rs_b575 (e2_orG 231 83 11 2 2147483648 2147483668 as_b574 Eb_b574 f_b574 rs_b574 (e2_cal S_b601 I_b601 4000 1))))))))))))))))))))) (e2_fin rs_b601) e2x_230 120 4000 cu_b601_120 = true := by decide +kernel
set_option maxRecDepth 1000000 in
theorem cs_b601 (hen : en_ok) (l : Launch) : e2_smOk l 5 s_b601 := by
  refine e2_conC (H := 4) (C := evd_230) (call := (e2_orG 231 83 11 2 2147483648 2147483668 as_b593 Eb_b593 f_b593 rs_b593 (e2_orG 231 83 11 2 2147483648 2147483668 as_b592 Eb_b592 f_b592 rs_b592 (e2_orG 231 83 11 2 2147483648 2147483668 as_b591 Eb_b591 f_b591 rs_b591 (e2_orG 231 83 11 2 2147483648 2147483668 as_b590 Eb_b590 f_b590 rs_b590 (e2_orG 231 83 11 2 2147483648 2147483668 as_b589 Eb_b589 f_b589 rs_b589 (e2_orG 231 83 11 2 2147483648 2147483668 as_b588 Eb_b588 f_b588 rs_b588 (e2_orG 231 83 11 2 2147483648 2147483668 as_b587 Eb_b587 f_b587 rs_b587 (e2_orG 231 83 11 2 2147483648 2147483668 as_b586 Eb_b586 f_b586 rs_b586 (e2_orG 231 83 11 2 2147483648 2147483668 as_b585 Eb_b585 f_b585 rs_b585 (e2_orG 231 83 11 2 2147483648 2147483668 as_b584 Eb_b584 f_b584 rs_b584 (e2_orG 231 83 11 2 2147483648 2147483668 as_b583 Eb_b583 f_b583 rs_b583 (e2_orG 231 83 11 2 2147483648 2147483668 as_b582 Eb_b582 f_b582 rs_b582 (e2_orG 231 83 11 2 2147483648 2147483668 as_b581 Eb_b581 f_b581 rs_b581 (e2_orG 231 83 11 2 2147483648 2147483668 as_b580 Eb_b580 f_b580 rs_b580 (e2_orG 231 83 11 2 2147483648 2147483668 as_b579 Eb_b579 f_b579 rs_b579 (e2_orG 231 83 11 2 2147483648 2147483668 as_b578 Eb_b578 f_b578 rs_b578 (e2_orG 231 83 11 2 2147483648 2147483668 as_b577 Eb_b577 f_b577 rs_b577 (e2_orG 231 83 11 2 2147483648 2147483668 as_b576 Eb_b576 f_b576 rs_b576 (e2_orG 231 83 11 2 2147483648 2147483668 as_b575 Eb_b575 f_b575 rs_b575 (e2_orG 231 83 11 2 2147483648 2147483668 as_b574 Eb_b574 f_b574 rs_b574 (e2_cal S_b601 I_b601 4000 1)))))))))))))))))))))) ei_230 (fun d hd => (e2_orG_ok (k0 := 231) (a := 83) (j := 11) (n := 2) (lo := 2147483648) (hi := 2147483668) (as0 := as_b593) (Eb := Eb_b593) (f := f_b593) (res := rs_b593) (e2_orG_ok (k0 := 231) (a := 83) (j := 11) (n := 2) (lo := 2147483648) (hi := 2147483668) (as0 := as_b592) (Eb := Eb_b592) (f := f_b592) (res := rs_b592) (e2_orG_ok (k0 := 231) (a := 83) (j := 11) (n := 2) (lo := 2147483648) (hi := 2147483668) (as0 := as_b591) (Eb := Eb_b591) (f := f_b591) (res := rs_b591) (e2_orG_ok (k0 := 231) (a := 83) (j := 11) (n := 2) (lo := 2147483648) (hi := 2147483668) (as0 := as_b590) (Eb := Eb_b590) (f := f_b590) (res := rs_b590) (e2_orG_ok (k0 := 231) (a := 83) (j := 11) (n := 2) (lo := 2147483648) (hi := 2147483668) (as0 := as_b589) (Eb := Eb_b589) (f := f_b589) (res := rs_b589) (e2_orG_ok (k0 := 231) (a := 83) (j := 11) (n := 2) (lo := 2147483648) (hi := 2147483668) (as0 := as_b588) (Eb := Eb_b588) (f := f_b588) (res := rs_b588) (e2_orG_ok (k0 := 231) (a := 83) (j := 11) (n := 2) (lo := 2147483648) (hi := 2147483668) (as0 := as_b587) (Eb := Eb_b587) (f := f_b587) (res := rs_b587) (e2_orG_ok (k0 := 231) (a := 83) (j := 11) (n := 2) (lo := 2147483648) (hi := 2147483668) (as0 := as_b586) (Eb := Eb_b586) (f := f_b586) (res := rs_b586) (e2_orG_ok (k0 := 231) (a := 83) (j := 11) (n := 2) (lo := 2147483648) (hi := 2147483668) (as0 := as_b585) (Eb := Eb_b585) (f := f_b585) (res := rs_b585) (e2_orG_ok (k0 := 231) (a := 83) (j := 11) (n := 2) (lo := 2147483648) (hi := 2147483668) (as0 := as_b584) (Eb := Eb_b584) (f := f_b584) (res := rs_b584) (e2_orG_ok (k0 := 231) (a := 83) (j := 11) (n := 2) (lo := 2147483648) (hi := 2147483668) (as0 := as_b583) (Eb := Eb_b583) (f := f_b583) (res := rs_b583) (e2_orG_ok (k0 := 231) (a := 83) (j := 11) (n := 2) (lo := 2147483648) (hi := 2147483668) (as0 := as_b582) (Eb := Eb_b582) (f := f_b582) (res := rs_b582) (e2_orG_ok (k0 := 231) (a := 83) (j := 11) (n := 2) (lo := 2147483648) (hi := 2147483668) (as0 := as_b581) (Eb := Eb_b581) (f := f_b581) (res := rs_b581) (e2_orG_ok (k0 := 231) (a := 83) (j := 11) (n := 2) (lo := 2147483648) (hi := 2147483668) (as0 := as_b580) (Eb := Eb_b580) (f := f_b580) (res := rs_b580) (e2_orG_ok (k0 := 231) (a := 83) (j := 11) (n := 2) (lo := 2147483648) (hi := 2147483668) (as0 := as_b579) (Eb := Eb_b579) (f := f_b579) (res := rs_b579) (e2_orG_ok (k0 := 231) (a := 83) (j := 11) (n := 2) (lo := 2147483648) (hi := 2147483668) (as0 := as_b578) (Eb := Eb_b578) (f := f_b578) (res := rs_b578) (e2_orG_ok (k0 := 231) (a := 83) (j := 11) (n := 2) (lo := 2147483648) (hi := 2147483668) (as0 := as_b577) (Eb := Eb_b577) (f := f_b577) (res := rs_b577) (e2_orG_ok (k0 := 231) (a := 83) (j := 11) (n := 2) (lo := 2147483648) (hi := 2147483668) (as0 := as_b576) (Eb := Eb_b576) (f := f_b576) (res := rs_b576) (e2_orG_ok (k0 := 231) (a := 83) (j := 11) (n := 2) (lo := 2147483648) (hi := 2147483668) (as0 := as_b575) (Eb := Eb_b575) (f := f_b575) (res := rs_b575) (e2_orG_ok (k0 := 231) (a := 83) (j := 11) (n := 2) (lo := 2147483648) (hi := 2147483668) (as0 := as_b574) (Eb := Eb_b574) (f := f_b574) (res := rs_b574) (e2_cal_ok hen (e2_fa (cs_b554 hen l) (e2_fa (cs_b555 hen l) (e2_fa (cs_b556 hen l) (e2_fa (cs_b557 hen l) (e2_fa (cs_b558 hen l) (e2_fa (cs_b559 hen l) (e2_fa (cs_b560 hen l) (e2_fa (cs_b561 hen l) (e2_fa (cs_b562 hen l) (e2_fa (cs_b563 hen l) (e2_fa (cs_b564 hen l) (e2_fa (cs_b565 hen l) (e2_fa (cs_b566 hen l) (e2_fa (cs_b567 hen l) (e2_fa (cs_b568 hen l) (e2_fa (cs_b569 hen l) (e2_fa (cs_b570 hen l) (e2_fa (cs_b571 hen l) (e2_fa (cs_b572 hen l) (e2_fa (cs_b573 hen l) e2_fz)))))))))))))))))))) (e2_fa ein_216 (e2_fa ein_217 (e2_fa ein_227 e2_fz))) 1 d (by omega)) rfl (by decide +kernel) (fun M hM => (cs_b574 hen l).2 M hM d (by omega)) (e2_okGB_ok cog_b574)) rfl (by decide +kernel) (fun M hM => (cs_b575 hen l).2 M hM d (by omega)) (e2_okGB_ok cog_b575)) rfl (by decide +kernel) (fun M hM => (cs_b576 hen l).2 M hM d (by omega)) (e2_okGB_ok cog_b576)) rfl (by decide +kernel) (fun M hM => (cs_b577 hen l).2 M hM d (by omega)) (e2_okGB_ok cog_b577)) rfl (by decide +kernel) (fun M hM => (cs_b578 hen l).2 M hM d (by omega)) (e2_okGB_ok cog_b578)) rfl (by decide +kernel) (fun M hM => (cs_b579 hen l).2 M hM d (by omega)) (e2_okGB_ok cog_b579)) rfl (by decide +kernel) (fun M hM => (cs_b580 hen l).2 M hM d (by omega)) (e2_okGB_ok cog_b580)) rfl (by decide +kernel) (fun M hM => (cs_b581 hen l).2 M hM d (by omega)) (e2_okGB_ok cog_b581)) rfl (by decide +kernel) (fun M hM => (cs_b582 hen l).2 M hM d (by omega)) (e2_okGB_ok cog_b582)) rfl (by decide +kernel) (fun M hM => (cs_b583 hen l).2 M hM d (by omega)) (e2_okGB_ok cog_b583)) rfl (by decide +kernel) (fun M hM => (cs_b584 hen l).2 M hM d (by omega)) (e2_okGB_ok cog_b584)) rfl (by decide +kernel) (fun M hM => (cs_b585 hen l).2 M hM d (by omega)) (e2_okGB_ok cog_b585)) rfl (by decide +kernel) (fun M hM => (cs_b586 hen l).2 M hM d (by omega)) (e2_okGB_ok cog_b586)) rfl (by decide +kernel) (fun M hM => (cs_b587 hen l).2 M hM d (by omega)) (e2_okGB_ok cog_b587)) rfl (by decide +kernel) (fun M hM => (cs_b588 hen l).2 M hM d (by omega)) (e2_okGB_ok cog_b588)) rfl (by decide +kernel) (fun M hM => (cs_b589 hen l).2 M hM d (by omega)) (e2_okGB_ok cog_b589)) rfl (by decide +kernel) (fun M hM => (cs_b590 hen l).2 M hM d (by omega)) (e2_okGB_ok cog_b590)) rfl (by decide +kernel) (fun M hM => (cs_b591 hen l).2 M hM d (by omega)) (e2_okGB_ok cog_b591)) rfl (by decide +kernel) (fun M hM => (cs_b592 hen l).2 M hM d (by omega)) (e2_okGB_ok cog_b592)) rfl (by decide +kernel) (fun M hM => (cs_b593 hen l).2 M hM d (by omega)) (e2_okGB_ok cog_b593))) (by decide) co_b601 fun M d _ hC hcall p e R s m args below meth c Q D cA A ads r0 ha hl0 => ?_
  have EN_120 := e2_cutS_ok (bp := 120) (cuts := cu_b601_120) (e2_cuts_len hl0 (by decide +kernel)) (e2_cuts_ok hen ha hcall (hC [76, 192, 195]) (X := e2x_230) ex2_230 (e2_cuts_len hl0 (by decide +kernel)) ck_b601_u120)
  have L_27 : e2_gdM M p l e R s m args below meth c Q D cA A ads r0 49 al_b601_27 [] E_b601_27 h_b601_27 := by
    refine e2_indD (u := 2) (j := 2) (lo := 2147483647) (hi := 2147483667) hl0 (by decide) rfl rfl rfl ci_b601_27 cj_b601_27 ?_
    intro r_27 k_27 hk_27 hp_27 hs_27 hn_27
    have hl_27 : r_27.length ≤ 3 := hs_27.len rfl
    have ha_27 := ha.ext hp_27
    have L_28 : e2_gdM M p l e R s m args below meth c Q D cA A ads r_27 55 al_b601_28 [] E_b601_28 h_b601_28 := by
      refine e2_indL (u := 3) (j := 3) (lo := 2147483648) (hi := 2147483657) (b := 3) (dd := 0) hl_27 (by decide) rfl rfl (Or.inr ⟨rfl, rfl⟩) rfl ci_b601_28 cj_b601_28 ?_
      intro r_28 k_28 hk_28 hp_28 hs_28 hn_28
      have hl_28 : r_28.length ≤ 4 := hs_28.len rfl
      have ha_28 := ha_27.ext hp_28
      exact e2_fromM hen ha_28 hcall (e2_cutA_ok (e2_fa (fun al st E h hc => (hn_27 al st E h hc).ext hp_28) (e2_fa (fun al st E h hc => hn_28 al st E h hc) e2_fz))) (hC [76, 192, 195]) (X := e2x_230) ex2_230 55 ck_b601_28
    have EN_28 := e2_entL (u := 3) (j := 3) (lo := 2147483648) (hi := 2147483657) hl_27 rfl rfl rfl ci_b601_28 cj_b601_28 L_28
    exact e2_fromM hen ha_27 hcall (e2_cutA_ok (e2_fa (fun al st E h hc => (EN_120 al st E h hc).ext hp_27) (e2_fa (fun al st E h hc => EN_28 al st E h hc) e2_fz))) (hC [76, 192, 195]) (X := e2x_230) ex2_230 49 ck_b601_27
  have EN_27 := e2_entL (u := 2) (j := 2) (lo := 2147483647) (hi := 2147483667) hl0 rfl rfl rfl ci_b601_27 cj_b601_27 L_27
  have L_26 : e2_gdM M p l e R s m args below meth c Q D cA A ads r0 2 al_b601_26 [] E_b601_26 h_b601_26 := by
    refine e2_indL (u := 2) (j := 2) (lo := 2147483648) (hi := 2147483657) (b := 2) (dd := 0) hl0 (by decide) rfl rfl (Or.inr ⟨rfl, rfl⟩) rfl ci_b601_26 cj_b601_26 ?_
    intro r_26 k_26 hk_26 hp_26 hs_26 hn_26
    have hl_26 : r_26.length ≤ 3 := hs_26.len rfl
    have ha_26 := ha.ext hp_26
    exact e2_fromM hen ha_26 hcall (e2_cutA_ok (e2_fa (fun al st E h hc => hn_26 al st E h hc) (e2_fa (fun al st E h hc => (EN_27 al st E h hc).ext hp_26) e2_fz))) (hC [76, 192, 195]) (X := e2x_230) ex2_230 2 ck_b601_26
  have EN_26 := e2_entL (u := 2) (j := 2) (lo := 2147483648) (hi := 2147483657) hl0 rfl rfl rfl ci_b601_26 cj_b601_26 L_26
  exact e2_from hen ha hcall (e2_cutA_ok (e2_fa (fun al st E h hc => EN_26 al st E h hc) e2_fz)) (hC [76, 192, 195]) (X := e2x_230) ex2_230 0 ck_b601_e
/-! b602 X10_read -/
def as_b602 : List ev_V := [(2, 83, 0), (11, 0, 4294967295)]
def E_b602 : e2_E := [(2147483648, 2147583648, 0, 0), (2147483656, 2147483656, 1, 0)]
def bc291 : ev_C := (50, [(11, 2147483649, 2147483654), (11, 2147483649, 2147483654), (11, 2147483649, 2147483654), (11, 2147483649, 2147483654), (11, 2147483649, 2147483654), (11, 2147483649, 2147483654), (11, 2147483649, 2147483654), (11, 2147483649, 2147483654), (11, 2147483648, 2147483654), (11, 2147483648, 2147483654), (11, 2147483648, 2147483654), (11, 2147483648, 2147483654), (11, 2147483648, 2147483654), (11, 2147483648, 2147483654), (11, 2147483648, 2147483654), (11, 2147483648, 2147483654)])
def bn4106 : e2_Q1 := (bc291, bc3)
def bn4107 : e2_Q2 := (bn130, bn4106)
def bn4108 : e2_Q3 := (bn129, bn4107)
def bn4109 : e2_Q4 := (bn4108, bn3573)
def bn4110 : e2_Q5 := (bn4109, bn156)
def bn4111 : e2_Q6 := (bn4110, bn3624)
def bn4112 : e2_Q7 := (bn4111, bn3594)
def bn4113 : e2_Q8 := (bn3614, bn4112)
noncomputable def f_b602 : ev_H := (bn4113 : e2_Q8)
noncomputable def q_b602_0 : ev_H := (bn4113 : e2_Q8)
noncomputable def rs_b602 : e2_Rs := [((11, 2147483647, 2147483668), q_b602_0)]
noncomputable def s_b602 : e2_Sm := (230, as_b602, E_b602, f_b602, rs_b602)
noncomputable def S_b602 : List e2_Sm := [s_b554, s_b555, s_b556, s_b557, s_b558, s_b559, s_b560, s_b561, s_b562, s_b563, s_b564, s_b565, s_b566, s_b567, s_b568, s_b569, s_b570, s_b571, s_b572, s_b573]
noncomputable def I_b602 : List e2_In := [(216, 1, e2x_216), (217, 1, e2x_217), (227, 2, e2x_227)]
set_option maxRecDepth 1000000 in
theorem co_b602 : e2_okSB E_b602.length as_b602 f_b602 rs_b602 = true := by decide +kernel
def al_b602_26 : List ev_V := [(2, 83, 0), (11, 0, 4294967295), (1, 2, 4294967296), (9, 0, 0), (9, 0, 0)]
def E_b602_26 : e2_E := [(2147483648, 2147583648, 0, 0), (2147483656, 2147483656, 1, 0), (2147483648, 2147483657, 2, 0)]
noncomputable def h_b602_26 : ev_H := (bn4113 : e2_Q8)
def al_b602_27 : List ev_V := [(2, 83, 0), (11, 0, 4294967295), (1, 2, 4294967296), (9, 0, 0), (9, 0, 0)]
def E_b602_27 : e2_E := [(2147483648, 2147583648, 0, 0), (2147483656, 2147483656, 1, 0), (2147483647, 2147483667, 2, 0)]
noncomputable def h_b602_27 : ev_H := (bn4113 : e2_Q8)
def al_b602_28 : List ev_V := [(2, 83, 0), (11, 0, 4294967295), (1, 2, 4294967296), (1, 3, 4294967296), (9, 0, 0)]
def E_b602_28 : e2_E := [(2147483648, 2147583648, 0, 0), (2147483656, 2147483656, 1, 0), (2147483648, 2147483667, 2, 0), (2147483648, 2147483657, 3, 0)]
noncomputable def h_b602_28 : ev_H := (bn4113 : e2_Q8)
def bn4114 : e2_Q7 := (bn4111, bn3633)
def bn4115 : e2_Q8 := (bn3614, bn4114)
noncomputable def h_b602_0 : ev_H := (bn4115 : e2_Q8)
def bn4116 : e2_Q7 := (bn4111, bn3651)
def bn4117 : e2_Q8 := (bn3614, bn4116)
noncomputable def h_b602_1 : ev_H := (bn4117 : e2_Q8)
def bn4118 : e2_Q7 := (bn4111, bn3659)
def bn4119 : e2_Q8 := (bn3614, bn4118)
noncomputable def h_b602_2 : ev_H := (bn4119 : e2_Q8)
def bn4120 : e2_Q7 := (bn4111, bn3667)
def bn4121 : e2_Q8 := (bn3614, bn4120)
noncomputable def h_b602_3 : ev_H := (bn4121 : e2_Q8)
def bn4122 : e2_Q7 := (bn4111, bn3675)
def bn4123 : e2_Q8 := (bn3614, bn4122)
noncomputable def h_b602_4 : ev_H := (bn4123 : e2_Q8)
def bn4124 : e2_Q7 := (bn4111, bn3683)
def bn4125 : e2_Q8 := (bn3614, bn4124)
noncomputable def h_b602_5 : ev_H := (bn4125 : e2_Q8)
def bn4126 : e2_Q7 := (bn4111, bn3691)
def bn4127 : e2_Q8 := (bn3614, bn4126)
noncomputable def h_b602_6 : ev_H := (bn4127 : e2_Q8)
def bn4128 : e2_Q7 := (bn4111, bn3699)
def bn4129 : e2_Q8 := (bn3614, bn4128)
noncomputable def h_b602_7 : ev_H := (bn4129 : e2_Q8)
def bn4130 : e2_Q7 := (bn4111, bn3707)
def bn4131 : e2_Q8 := (bn3614, bn4130)
noncomputable def h_b602_8 : ev_H := (bn4131 : e2_Q8)
def bn4132 : e2_Q7 := (bn4111, bn3715)
def bn4133 : e2_Q8 := (bn3614, bn4132)
noncomputable def h_b602_9 : ev_H := (bn4133 : e2_Q8)
def bn4134 : e2_Q7 := (bn4111, bn3723)
def bn4135 : e2_Q8 := (bn3614, bn4134)
noncomputable def h_b602_10 : ev_H := (bn4135 : e2_Q8)
def bn4136 : e2_Q7 := (bn4111, bn3731)
def bn4137 : e2_Q8 := (bn3614, bn4136)
noncomputable def h_b602_11 : ev_H := (bn4137 : e2_Q8)
def bn4138 : e2_Q7 := (bn4111, bn3739)
def bn4139 : e2_Q8 := (bn3614, bn4138)
noncomputable def h_b602_12 : ev_H := (bn4139 : e2_Q8)
def bn4140 : e2_Q7 := (bn4111, bn3747)
def bn4141 : e2_Q8 := (bn3614, bn4140)
noncomputable def h_b602_13 : ev_H := (bn4141 : e2_Q8)
def bn4142 : e2_Q7 := (bn4111, bn3755)
def bn4143 : e2_Q8 := (bn3614, bn4142)
noncomputable def h_b602_14 : ev_H := (bn4143 : e2_Q8)
def bn4144 : e2_Q7 := (bn4111, bn3763)
def bn4145 : e2_Q8 := (bn3614, bn4144)
noncomputable def h_b602_15 : ev_H := (bn4145 : e2_Q8)
def bn4146 : e2_Q7 := (bn4111, bn3771)
def bn4147 : e2_Q8 := (bn3614, bn4146)
noncomputable def h_b602_16 : ev_H := (bn4147 : e2_Q8)
def bn4148 : e2_Q7 := (bn4111, bn3779)
def bn4149 : e2_Q8 := (bn3614, bn4148)
noncomputable def h_b602_17 : ev_H := (bn4149 : e2_Q8)
def bn4150 : e2_Q7 := (bn4111, bn3787)
def bn4151 : e2_Q8 := (bn3614, bn4150)
noncomputable def h_b602_18 : ev_H := (bn4151 : e2_Q8)
def bn4152 : e2_Q7 := (bn4111, bn3795)
def bn4153 : e2_Q8 := (bn3614, bn4152)
noncomputable def h_b602_19 : ev_H := (bn4153 : e2_Q8)
noncomputable def h_b602_20 : ev_H := (bn4113 : e2_Q8)
def bn4154 : e2_Q7 := (bn4111, bn3803)
def bn4155 : e2_Q8 := (bn3614, bn4154)
noncomputable def h_b602_21 : ev_H := (bn4155 : e2_Q8)
noncomputable def h_b602_22 : ev_H := (bn4155 : e2_Q8)
noncomputable def h_b602_23 : ev_H := (bn4155 : e2_Q8)
noncomputable def h_b602_24 : ev_H := (bn4155 : e2_Q8)
noncomputable def h_b602_25 : ev_H := (bn4155 : e2_Q8)
noncomputable def cu_b602_120 : List e2_Cu := [([(2, 83, 0), (11, 0, 4294967295), (0, 0, 0), (0, 8, 0), (9, 0, 0)], [(2147483648, 2147583648, 0, 0), (2147483656, 2147483656, 1, 0)], h_b602_0),
  ([(2, 83, 0), (11, 0, 4294967295), (0, 1, 0), (11, 2147483648, 2147483656), (11, 2147483647, 2147483655)], [(2147483648, 2147583648, 0, 0), (2147483656, 2147483656, 1, 0)], h_b602_1),
  ([(2, 83, 0), (11, 0, 4294967295), (0, 2, 0), (11, 2147483648, 2147483656), (11, 2147483647, 2147483655)], [(2147483648, 2147583648, 0, 0), (2147483656, 2147483656, 1, 0)], h_b602_2),
  ([(2, 83, 0), (11, 0, 4294967295), (0, 3, 0), (11, 2147483648, 2147483656), (11, 2147483647, 2147483655)], [(2147483648, 2147583648, 0, 0), (2147483656, 2147483656, 1, 0)], h_b602_3),
  ([(2, 83, 0), (11, 0, 4294967295), (0, 4, 0), (11, 2147483648, 2147483656), (11, 2147483647, 2147483655)], [(2147483648, 2147583648, 0, 0), (2147483656, 2147483656, 1, 0)], h_b602_4),
  ([(2, 83, 0), (11, 0, 4294967295), (0, 5, 0), (11, 2147483648, 2147483656), (11, 2147483647, 2147483655)], [(2147483648, 2147583648, 0, 0), (2147483656, 2147483656, 1, 0)], h_b602_5),
  ([(2, 83, 0), (11, 0, 4294967295), (0, 6, 0), (11, 2147483648, 2147483656), (11, 2147483647, 2147483655)], [(2147483648, 2147583648, 0, 0), (2147483656, 2147483656, 1, 0)], h_b602_6),
  ([(2, 83, 0), (11, 0, 4294967295), (0, 7, 0), (11, 2147483648, 2147483656), (11, 2147483647, 2147483655)], [(2147483648, 2147583648, 0, 0), (2147483656, 2147483656, 1, 0)], h_b602_7),
  ([(2, 83, 0), (11, 0, 4294967295), (0, 8, 0), (11, 2147483648, 2147483656), (11, 2147483647, 2147483655)], [(2147483648, 2147583648, 0, 0), (2147483656, 2147483656, 1, 0)], h_b602_8),
  ([(2, 83, 0), (11, 0, 4294967295), (0, 9, 0), (11, 2147483648, 2147483656), (11, 2147483647, 2147483655)], [(2147483648, 2147583648, 0, 0), (2147483656, 2147483656, 1, 0)], h_b602_9),
  ([(2, 83, 0), (11, 0, 4294967295), (0, 10, 0), (11, 2147483648, 2147483656), (11, 2147483647, 2147483655)], [(2147483648, 2147583648, 0, 0), (2147483656, 2147483656, 1, 0)], h_b602_10),
  ([(2, 83, 0), (11, 0, 4294967295), (0, 11, 0), (11, 2147483648, 2147483656), (11, 2147483647, 2147483655)], [(2147483648, 2147583648, 0, 0), (2147483656, 2147483656, 1, 0)], h_b602_11),
  ([(2, 83, 0), (11, 0, 4294967295), (0, 12, 0), (11, 2147483648, 2147483656), (11, 2147483647, 2147483655)], [(2147483648, 2147583648, 0, 0), (2147483656, 2147483656, 1, 0)], h_b602_12),
  ([(2, 83, 0), (11, 0, 4294967295), (0, 13, 0), (11, 2147483648, 2147483656), (11, 2147483647, 2147483655)], [(2147483648, 2147583648, 0, 0), (2147483656, 2147483656, 1, 0)], h_b602_13),
  ([(2, 83, 0), (11, 0, 4294967295), (0, 14, 0), (11, 2147483648, 2147483656), (11, 2147483647, 2147483655)], [(2147483648, 2147583648, 0, 0), (2147483656, 2147483656, 1, 0)], h_b602_14),
  ([(2, 83, 0), (11, 0, 4294967295), (0, 15, 0), (11, 2147483648, 2147483656), (11, 2147483647, 2147483655)], [(2147483648, 2147583648, 0, 0), (2147483656, 2147483656, 1, 0)], h_b602_15),
  ([(2, 83, 0), (11, 0, 4294967295), (0, 16, 0), (11, 2147483648, 2147483656), (11, 2147483647, 2147483655)], [(2147483648, 2147583648, 0, 0), (2147483656, 2147483656, 1, 0)], h_b602_16),
  ([(2, 83, 0), (11, 0, 4294967295), (0, 17, 0), (11, 2147483648, 2147483656), (11, 2147483647, 2147483655)], [(2147483648, 2147583648, 0, 0), (2147483656, 2147483656, 1, 0)], h_b602_17),
  ([(2, 83, 0), (11, 0, 4294967295), (0, 18, 0), (11, 2147483648, 2147483656), (11, 2147483647, 2147483655)], [(2147483648, 2147583648, 0, 0), (2147483656, 2147483656, 1, 0)], h_b602_18),
  ([(2, 83, 0), (11, 0, 4294967295), (0, 19, 0), (11, 2147483648, 2147483656), (11, 2147483647, 2147483655)], [(2147483648, 2147583648, 0, 0), (2147483656, 2147483656, 1, 0)], h_b602_19),
  ([(2, 83, 0), (11, 0, 4294967295), (0, 20, 0), (11, 2147483648, 2147483656), (11, 2147483647, 2147483655)], [(2147483648, 2147583648, 0, 0), (2147483656, 2147483656, 1, 0)], h_b602_20),
  ([(2, 83, 0), (11, 0, 4294967295), (0, 21, 0), (11, 2147483648, 2147483655), (11, 2147483648, 2147483655)], [(2147483648, 2147583648, 0, 0), (2147483656, 2147483656, 1, 0)], h_b602_21),
  ([(2, 83, 0), (11, 0, 4294967295), (0, 22, 0), (11, 2147483648, 2147483655), (11, 2147483648, 2147483655)], [(2147483648, 2147583648, 0, 0), (2147483656, 2147483656, 1, 0)], h_b602_22),
  ([(2, 83, 0), (11, 0, 4294967295), (0, 23, 0), (11, 2147483648, 2147483655), (11, 2147483648, 2147483655)], [(2147483648, 2147583648, 0, 0), (2147483656, 2147483656, 1, 0)], h_b602_23),
  ([(2, 83, 0), (11, 0, 4294967295), (0, 24, 0), (11, 2147483648, 2147483655), (11, 2147483648, 2147483655)], [(2147483648, 2147583648, 0, 0), (2147483656, 2147483656, 1, 0)], h_b602_24),
  ([(2, 83, 0), (11, 0, 4294967295), (0, 25, 0), (11, 2147483648, 2147483655), (11, 2147483648, 2147483655)], [(2147483648, 2147583648, 0, 0), (2147483656, 2147483656, 1, 0)], h_b602_25)]
noncomputable def cl_b602_e : List (Nat × e2_S) := [(2, e2_cutL (al_b602_26.set 2 (11, 2147483648, 2147483657)) 2 (E_b602_26.take 2) h_b602_26)]
set_option maxRecDepth 1000000 in
theorem ck_b602_e : e2_run (e2_orG 231 83 11 2 2147483648 2147483668 as_b593 Eb_b593 f_b593 rs_b593 (e2_orG 231 83 11 2 2147483648 2147483668 as_b592 Eb_b592 f_b592 rs_b592 (e2_orG 231 83 11 2 2147483648 2147483668 as_b591 Eb_b591 f_b591 rs_b591 (e2_orG 231 83 11 2 2147483648 2147483668 as_b590 Eb_b590 f_b590 rs_b590 (e2_orG 231 83 11 2 2147483648 2147483668 as_b589 Eb_b589 f_b589 rs_b589 (e2_orG 231 83 11 2 2147483648 2147483668 as_b588 Eb_b588 f_b588 rs_b588 (e2_orG 231 83 11 2 2147483648 2147483668 as_b587 Eb_b587 f_b587 rs_b587 (e2_orG 231 83 11 2 2147483648 2147483668 as_b586 Eb_b586 f_b586 rs_b586 (e2_orG 231 83 11 2 2147483648 2147483668 as_b585 Eb_b585 f_b585 rs_b585 (e2_orG 231 83 11 2 2147483648 2147483668 as_b584 Eb_b584 f_b584 rs_b584 (e2_orG 231 83 11 2 2147483648 2147483668 as_b583 Eb_b583 f_b583 rs_b583 (e2_orG 231 83 11 2 2147483648 2147483668 as_b582 Eb_b582 f_b582 rs_b582 (e2_orG 231 83 11 2 2147483648 2147483668 as_b581 Eb_b581 f_b581 rs_b581 (e2_orG 231 83 11 2 2147483648 2147483668 as_b580 Eb_b580 f_b580 rs_b580 (e2_orG 231 83 11 2 2147483648 2147483668 as_b579 Eb_b579 f_b579 rs_b579 (e2_orG 231 83 11 2 2147483648 2147483668 as_b578 Eb_b578 f_b578 rs_b578 (e2_orG 231 83 11 2 2147483648 2147483668 as_b577 Eb_b577 f_b577 rs_b577 (e2_orG 231 83 11 2 2147483648 2147483668 as_b576 Eb_b576 f_b576 rs_b576 (e2_orG 231 83 11 2 2147483648 2147483668 as_b575 Eb_b575 f_b575 rs_b575 (e2_orG 231 83 11 2 2147483648 2147483668 as_b574 Eb_b574 f_b574 rs_b574 (e2_cal S_b602 I_b602 4000 1))))))))))))))))))))) (e2_fin rs_b602) e2x_230 (e2_bpL cl_b602_e) (e2_cutA cl_b602_e) 4000 (e2_seek e2x_230 0) (e2_al 5 as_b602) [] E_b602 f_b602 = true := by decide +kernel
noncomputable def cl_b602_26 : List (Nat × e2_S) := [(2, e2_cutL (al_b602_26.set 2 (13, 10, 2147483657)) 2 (E_b602_26.take 2) h_b602_26),
  (49, e2_cutL (al_b602_27.set 2 (11, 2147483647, 2147483667)) 2 (E_b602_27.take 2) h_b602_27)]
set_option maxRecDepth 1000000 in
theorem ck_b602_26 : e2_runM (e2_orG 231 83 11 2 2147483648 2147483668 as_b593 Eb_b593 f_b593 rs_b593 (e2_orG 231 83 11 2 2147483648 2147483668 as_b592 Eb_b592 f_b592 rs_b592 (e2_orG 231 83 11 2 2147483648 2147483668 as_b591 Eb_b591 f_b591 rs_b591 (e2_orG 231 83 11 2 2147483648 2147483668 as_b590 Eb_b590 f_b590 rs_b590 (e2_orG 231 83 11 2 2147483648 2147483668 as_b589 Eb_b589 f_b589 rs_b589 (e2_orG 231 83 11 2 2147483648 2147483668 as_b588 Eb_b588 f_b588 rs_b588 (e2_orG 231 83 11 2 2147483648 2147483668 as_b587 Eb_b587 f_b587 rs_b587 (e2_orG 231 83 11 2 2147483648 2147483668 as_b586 Eb_b586 f_b586 rs_b586 (e2_orG 231 83 11 2 2147483648 2147483668 as_b585 Eb_b585 f_b585 rs_b585 (e2_orG 231 83 11 2 2147483648 2147483668 as_b584 Eb_b584 f_b584 rs_b584 (e2_orG 231 83 11 2 2147483648 2147483668 as_b583 Eb_b583 f_b583 rs_b583 (e2_orG 231 83 11 2 2147483648 2147483668 as_b582 Eb_b582 f_b582 rs_b582 (e2_orG 231 83 11 2 2147483648 2147483668 as_b581 Eb_b581 f_b581 rs_b581 (e2_orG 231 83 11 2 2147483648 2147483668 as_b580 Eb_b580 f_b580 rs_b580 (e2_orG 231 83 11 2 2147483648 2147483668 as_b579 Eb_b579 f_b579 rs_b579 (e2_orG 231 83 11 2 2147483648 2147483668 as_b578 Eb_b578 f_b578 rs_b578 (e2_orG 231 83 11 2 2147483648 2147483668 as_b577 Eb_b577 f_b577 rs_b577 (e2_orG 231 83 11 2 2147483648 2147483668 as_b576 Eb_b576 f_b576 rs_b576 (e2_orG 231 83 11 2 2147483648 2147483668 as_b575 Eb_b575 f_b575 rs_b575 (e2_orG 231 83 11 2 2147483648 2147483668 as_b574 Eb_b574 f_b574 rs_b574 (e2_cal S_b602 I_b602 4000 1))))))))))))))))))))) (e2_fin rs_b602) e2x_230 (e2_bpL cl_b602_26) (e2_cutA cl_b602_26) 4000 (e2_seek e2x_230 2) al_b602_26 [] E_b602_26 h_b602_26 = true := by decide +kernel
set_option maxRecDepth 1000000 in
theorem ci_b602_26 : e2_idl 2 (al_b602_26.set 2 (9, 0, 0)) = true := by decide +kernel
set_option maxRecDepth 1000000 in
theorem cj_b602_26 : e2_idh 2 8 h_b602_26 = true := by decide +kernel
noncomputable def cl_b602_27 : List (Nat × e2_S) := [(120, e2_cutS cu_b602_120),
  (55, e2_cutL (al_b602_28.set 3 (11, 2147483648, 2147483657)) 3 (E_b602_28.take 3) h_b602_28)]
set_option maxRecDepth 1000000 in
theorem ck_b602_27 : e2_runM (e2_orG 231 83 11 2 2147483648 2147483668 as_b593 Eb_b593 f_b593 rs_b593 (e2_orG 231 83 11 2 2147483648 2147483668 as_b592 Eb_b592 f_b592 rs_b592 (e2_orG 231 83 11 2 2147483648 2147483668 as_b591 Eb_b591 f_b591 rs_b591 (e2_orG 231 83 11 2 2147483648 2147483668 as_b590 Eb_b590 f_b590 rs_b590 (e2_orG 231 83 11 2 2147483648 2147483668 as_b589 Eb_b589 f_b589 rs_b589 (e2_orG 231 83 11 2 2147483648 2147483668 as_b588 Eb_b588 f_b588 rs_b588 (e2_orG 231 83 11 2 2147483648 2147483668 as_b587 Eb_b587 f_b587 rs_b587 (e2_orG 231 83 11 2 2147483648 2147483668 as_b586 Eb_b586 f_b586 rs_b586 (e2_orG 231 83 11 2 2147483648 2147483668 as_b585 Eb_b585 f_b585 rs_b585 (e2_orG 231 83 11 2 2147483648 2147483668 as_b584 Eb_b584 f_b584 rs_b584 (e2_orG 231 83 11 2 2147483648 2147483668 as_b583 Eb_b583 f_b583 rs_b583 (e2_orG 231 83 11 2 2147483648 2147483668 as_b582 Eb_b582 f_b582 rs_b582 (e2_orG 231 83 11 2 2147483648 2147483668 as_b581 Eb_b581 f_b581 rs_b581 (e2_orG 231 83 11 2 2147483648 2147483668 as_b580 Eb_b580 f_b580 rs_b580 (e2_orG 231 83 11 2 2147483648 2147483668 as_b579 Eb_b579 f_b579 rs_b579 (e2_orG 231 83 11 2 2147483648 2147483668 as_b578 Eb_b578 f_b578 rs_b578 (e2_orG 231 83 11 2 2147483648 2147483668 as_b577 Eb_b577 f_b577 rs_b577 (e2_orG 231 83 11 2 2147483648 2147483668 as_b576 Eb_b576 f_b576 rs_b576 (e2_orG 231 83 11 2 2147483648 2147483668 as_b575 Eb_b575 f_b575 rs_b575 (e2_orG 231 83 11 2 2147483648 2147483668 as_b574 Eb_b574 f_b574 rs_b574 (e2_cal S_b602 I_b602 4000 1))))))))))))))))))))) (e2_fin rs_b602) e2x_230 (e2_bpL cl_b602_27) (e2_cutA cl_b602_27) 4000 (e2_seek e2x_230 49) al_b602_27 [] E_b602_27 h_b602_27 = true := by decide +kernel
set_option maxRecDepth 1000000 in
theorem ci_b602_27 : e2_idl 2 (al_b602_27.set 2 (9, 0, 0)) = true := by decide +kernel
set_option maxRecDepth 1000000 in
theorem cj_b602_27 : e2_idh 2 8 h_b602_27 = true := by decide +kernel
noncomputable def cl_b602_28 : List (Nat × e2_S) := [(49, e2_cutL (al_b602_27.set 2 (12, 10, 2147483647)) 2 (E_b602_27.take 2) h_b602_27),
  (55, e2_cutL (al_b602_28.set 3 (13, 11, 2147483657)) 3 (E_b602_28.take 3) h_b602_28)]
set_option maxRecDepth 1000000 in
theorem ck_b602_28 : e2_runM (e2_orG 231 83 11 2 2147483648 2147483668 as_b593 Eb_b593 f_b593 rs_b593 (e2_orG 231 83 11 2 2147483648 2147483668 as_b592 Eb_b592 f_b592 rs_b592 (e2_orG 231 83 11 2 2147483648 2147483668 as_b591 Eb_b591 f_b591 rs_b591 (e2_orG 231 83 11 2 2147483648 2147483668 as_b590 Eb_b590 f_b590 rs_b590 (e2_orG 231 83 11 2 2147483648 2147483668 as_b589 Eb_b589 f_b589 rs_b589 (e2_orG 231 83 11 2 2147483648 2147483668 as_b588 Eb_b588 f_b588 rs_b588 (e2_orG 231 83 11 2 2147483648 2147483668 as_b587 Eb_b587 f_b587 rs_b587 (e2_orG 231 83 11 2 2147483648 2147483668 as_b586 Eb_b586 f_b586 rs_b586 (e2_orG 231 83 11 2 2147483648 2147483668 as_b585 Eb_b585 f_b585 rs_b585 (e2_orG 231 83 11 2 2147483648 2147483668 as_b584 Eb_b584 f_b584 rs_b584 (e2_orG 231 83 11 2 2147483648 2147483668 as_b583 Eb_b583 f_b583 rs_b583 (e2_orG 231 83 11 2 2147483648 2147483668 as_b582 Eb_b582 f_b582 rs_b582 (e2_orG 231 83 11 2 2147483648 2147483668 as_b581 Eb_b581 f_b581 rs_b581 (e2_orG 231 83 11 2 2147483648 2147483668 as_b580 Eb_b580 f_b580 rs_b580 (e2_orG 231 83 11 2 2147483648 2147483668 as_b579 Eb_b579 f_b579 rs_b579 (e2_orG 231 83 11 2 2147483648 2147483668 as_b578 Eb_b578 f_b578 rs_b578 (e2_orG 231 83 11 2 2147483648 2147483668 as_b577 Eb_b577 f_b577 rs_b577 (e2_orG 231 83 11 2 2147483648 2147483668 as_b576 Eb_b576 f_b576 rs_b576 (e2_orG 231 83 11 2 2147483648 2147483668 as_b575 Eb_b575 f_b575 rs_b575 (e2_orG 231 83 11 2 2147483648 2147483668 as_b574 Eb_b574 f_b574 rs_b574 (e2_cal S_b602 I_b602 4000 1))))))))))))))))))))) (e2_fin rs_b602) e2x_230 (e2_bpL cl_b602_28) (e2_cutA cl_b602_28) 4000 (e2_seek e2x_230 55) al_b602_28 [] E_b602_28 h_b602_28 = true := by decide +kernel
set_option maxRecDepth 1000000 in
theorem ci_b602_28 : e2_idl 3 (al_b602_28.set 3 (9, 0, 0)) = true := by decide +kernel
set_option maxRecDepth 1000000 in
theorem cj_b602_28 : e2_idh 3 8 h_b602_28 = true := by decide +kernel
set_option maxRecDepth 1000000 in
theorem ck_b602_u120 : e2_cutsB (e2_orG 231 83 11 2 2147483648 2147483668 as_b593 Eb_b593 f_b593 rs_b593 (e2_orG 231 83 11 2 2147483648 2147483668 as_b592 Eb_b592 f_b592 rs_b592 (e2_orG 231 83 11 2 2147483648 2147483668 as_b591 Eb_b591 f_b591 rs_b591 (e2_orG 231 83 11 2 2147483648 2147483668 as_b590 Eb_b590 f_b590 rs_b590 (e2_orG 231 83 11 2 2147483648 2147483668 as_b589 Eb_b589 f_b589 rs_b589 (e2_orG 231 83 11 2 2147483648 2147483668 as_b588 Eb_b588 f_b588 rs_b588 (e2_orG 231 83 11 2 2147483648 2147483668 as_b587 Eb_b587 f_b587 rs_b587 (e2_orG 231 83 11 2 2147483648 2147483668 as_b586 Eb_b586 f_b586 rs_b586 (e2_orG 231 83 11 2 2147483648 2147483668 as_b585 Eb_b585 f_b585 rs_b585 (e2_orG 231 83 11 2 2147483648 2147483668 as_b584 Eb_b584 f_b584 rs_b584 (e2_orG 231 83 11 2 2147483648 2147483668 as_b583 Eb_b583 f_b583 rs_b583 (e2_orG 231 83 11 2 2147483648 2147483668 as_b582 Eb_b582 f_b582 rs_b582 (e2_orG 231 83 11 2 2147483648 2147483668 as_b581 Eb_b581 f_b581 rs_b581 (e2_orG 231 83 11 2 2147483648 2147483668 as_b580 Eb_b580 f_b580 rs_b580 (e2_orG 231 83 11 2 2147483648 2147483668 as_b579 Eb_b579 f_b579 rs_b579 (e2_orG 231 83 11 2 2147483648 2147483668 as_b578 Eb_b578 f_b578 rs_b578 (e2_orG 231 83 11 2 2147483648 2147483668 as_b577 Eb_b577 f_b577 rs_b577 (e2_orG 231 83 11 2 2147483648 2147483668 as_b576 Eb_b576 f_b576 rs_b576 (e2_orG 231 83 11 2 2147483648 2147483668 as_b575 Eb_b575 f_b575 rs_b575 (e2_orG 231 83 11 2 2147483648 2147483668 as_b574 Eb_b574 f_b574 rs_b574 (e2_cal S_b602 I_b602 4000 1))))))))))))))))))))) (e2_fin rs_b602) e2x_230 120 4000 cu_b602_120 = true := by decide +kernel
set_option maxRecDepth 1000000 in
theorem cs_b602 (hen : en_ok) (l : Launch) : e2_smOk l 5 s_b602 := by
  refine e2_conC (H := 4) (C := evd_230) (call := (e2_orG 231 83 11 2 2147483648 2147483668 as_b593 Eb_b593 f_b593 rs_b593 (e2_orG 231 83 11 2 2147483648 2147483668 as_b592 Eb_b592 f_b592 rs_b592 (e2_orG 231 83 11 2 2147483648 2147483668 as_b591 Eb_b591 f_b591 rs_b591 (e2_orG 231 83 11 2 2147483648 2147483668 as_b590 Eb_b590 f_b590 rs_b590 (e2_orG 231 83 11 2 2147483648 2147483668 as_b589 Eb_b589 f_b589 rs_b589 (e2_orG 231 83 11 2 2147483648 2147483668 as_b588 Eb_b588 f_b588 rs_b588 (e2_orG 231 83 11 2 2147483648 2147483668 as_b587 Eb_b587 f_b587 rs_b587 (e2_orG 231 83 11 2 2147483648 2147483668 as_b586 Eb_b586 f_b586 rs_b586 (e2_orG 231 83 11 2 2147483648 2147483668 as_b585 Eb_b585 f_b585 rs_b585 (e2_orG 231 83 11 2 2147483648 2147483668 as_b584 Eb_b584 f_b584 rs_b584 (e2_orG 231 83 11 2 2147483648 2147483668 as_b583 Eb_b583 f_b583 rs_b583 (e2_orG 231 83 11 2 2147483648 2147483668 as_b582 Eb_b582 f_b582 rs_b582 (e2_orG 231 83 11 2 2147483648 2147483668 as_b581 Eb_b581 f_b581 rs_b581 (e2_orG 231 83 11 2 2147483648 2147483668 as_b580 Eb_b580 f_b580 rs_b580 (e2_orG 231 83 11 2 2147483648 2147483668 as_b579 Eb_b579 f_b579 rs_b579 (e2_orG 231 83 11 2 2147483648 2147483668 as_b578 Eb_b578 f_b578 rs_b578 (e2_orG 231 83 11 2 2147483648 2147483668 as_b577 Eb_b577 f_b577 rs_b577 (e2_orG 231 83 11 2 2147483648 2147483668 as_b576 Eb_b576 f_b576 rs_b576 (e2_orG 231 83 11 2 2147483648 2147483668 as_b575 Eb_b575 f_b575 rs_b575 (e2_orG 231 83 11 2 2147483648 2147483668 as_b574 Eb_b574 f_b574 rs_b574 (e2_cal S_b602 I_b602 4000 1)))))))))))))))))))))) ei_230 (fun d hd => (e2_orG_ok (k0 := 231) (a := 83) (j := 11) (n := 2) (lo := 2147483648) (hi := 2147483668) (as0 := as_b593) (Eb := Eb_b593) (f := f_b593) (res := rs_b593) (e2_orG_ok (k0 := 231) (a := 83) (j := 11) (n := 2) (lo := 2147483648) (hi := 2147483668) (as0 := as_b592) (Eb := Eb_b592) (f := f_b592) (res := rs_b592) (e2_orG_ok (k0 := 231) (a := 83) (j := 11) (n := 2) (lo := 2147483648) (hi := 2147483668) (as0 := as_b591) (Eb := Eb_b591) (f := f_b591) (res := rs_b591) (e2_orG_ok (k0 := 231) (a := 83) (j := 11) (n := 2) (lo := 2147483648) (hi := 2147483668) (as0 := as_b590) (Eb := Eb_b590) (f := f_b590) (res := rs_b590) (e2_orG_ok (k0 := 231) (a := 83) (j := 11) (n := 2) (lo := 2147483648) (hi := 2147483668) (as0 := as_b589) (Eb := Eb_b589) (f := f_b589) (res := rs_b589) (e2_orG_ok (k0 := 231) (a := 83) (j := 11) (n := 2) (lo := 2147483648) (hi := 2147483668) (as0 := as_b588) (Eb := Eb_b588) (f := f_b588) (res := rs_b588) (e2_orG_ok (k0 := 231) (a := 83) (j := 11) (n := 2) (lo := 2147483648) (hi := 2147483668) (as0 := as_b587) (Eb := Eb_b587) (f := f_b587) (res := rs_b587) (e2_orG_ok (k0 := 231) (a := 83) (j := 11) (n := 2) (lo := 2147483648) (hi := 2147483668) (as0 := as_b586) (Eb := Eb_b586) (f := f_b586) (res := rs_b586) (e2_orG_ok (k0 := 231) (a := 83) (j := 11) (n := 2) (lo := 2147483648) (hi := 2147483668) (as0 := as_b585) (Eb := Eb_b585) (f := f_b585) (res := rs_b585) (e2_orG_ok (k0 := 231) (a := 83) (j := 11) (n := 2) (lo := 2147483648) (hi := 2147483668) (as0 := as_b584) (Eb := Eb_b584) (f := f_b584) (res := rs_b584) (e2_orG_ok (k0 := 231) (a := 83) (j := 11) (n := 2) (lo := 2147483648) (hi := 2147483668) (as0 := as_b583) (Eb := Eb_b583) (f := f_b583) (res := rs_b583) (e2_orG_ok (k0 := 231) (a := 83) (j := 11) (n := 2) (lo := 2147483648) (hi := 2147483668) (as0 := as_b582) (Eb := Eb_b582) (f := f_b582) (res := rs_b582) (e2_orG_ok (k0 := 231) (a := 83) (j := 11) (n := 2) (lo := 2147483648) (hi := 2147483668) (as0 := as_b581) (Eb := Eb_b581) (f := f_b581) (res := rs_b581) (e2_orG_ok (k0 := 231) (a := 83) (j := 11) (n := 2) (lo := 2147483648) (hi := 2147483668) (as0 := as_b580) (Eb := Eb_b580) (f := f_b580) (res := rs_b580) (e2_orG_ok (k0 := 231) (a := 83) (j := 11) (n := 2) (lo := 2147483648) (hi := 2147483668) (as0 := as_b579) (Eb := Eb_b579) (f := f_b579) (res := rs_b579) (e2_orG_ok (k0 := 231) (a := 83) (j := 11) (n := 2) (lo := 2147483648) (hi := 2147483668) (as0 := as_b578) (Eb := Eb_b578) (f := f_b578) (res := rs_b578) (e2_orG_ok (k0 := 231) (a := 83) (j := 11) (n := 2) (lo := 2147483648) (hi := 2147483668) (as0 := as_b577) (Eb := Eb_b577) (f := f_b577) (res := rs_b577) (e2_orG_ok (k0 := 231) (a := 83) (j := 11) (n := 2) (lo := 2147483648) (hi := 2147483668) (as0 := as_b576) (Eb := Eb_b576) (f := f_b576) (res := rs_b576) (e2_orG_ok (k0 := 231) (a := 83) (j := 11) (n := 2) (lo := 2147483648) (hi := 2147483668) (as0 := as_b575) (Eb := Eb_b575) (f := f_b575) (res := rs_b575) (e2_orG_ok (k0 := 231) (a := 83) (j := 11) (n := 2) (lo := 2147483648) (hi := 2147483668) (as0 := as_b574) (Eb := Eb_b574) (f := f_b574) (res := rs_b574) (e2_cal_ok hen (e2_fa (cs_b554 hen l) (e2_fa (cs_b555 hen l) (e2_fa (cs_b556 hen l) (e2_fa (cs_b557 hen l) (e2_fa (cs_b558 hen l) (e2_fa (cs_b559 hen l) (e2_fa (cs_b560 hen l) (e2_fa (cs_b561 hen l) (e2_fa (cs_b562 hen l) (e2_fa (cs_b563 hen l) (e2_fa (cs_b564 hen l) (e2_fa (cs_b565 hen l) (e2_fa (cs_b566 hen l) (e2_fa (cs_b567 hen l) (e2_fa (cs_b568 hen l) (e2_fa (cs_b569 hen l) (e2_fa (cs_b570 hen l) (e2_fa (cs_b571 hen l) (e2_fa (cs_b572 hen l) (e2_fa (cs_b573 hen l) e2_fz)))))))))))))))))))) (e2_fa ein_216 (e2_fa ein_217 (e2_fa ein_227 e2_fz))) 1 d (by omega)) rfl (by decide +kernel) (fun M hM => (cs_b574 hen l).2 M hM d (by omega)) (e2_okGB_ok cog_b574)) rfl (by decide +kernel) (fun M hM => (cs_b575 hen l).2 M hM d (by omega)) (e2_okGB_ok cog_b575)) rfl (by decide +kernel) (fun M hM => (cs_b576 hen l).2 M hM d (by omega)) (e2_okGB_ok cog_b576)) rfl (by decide +kernel) (fun M hM => (cs_b577 hen l).2 M hM d (by omega)) (e2_okGB_ok cog_b577)) rfl (by decide +kernel) (fun M hM => (cs_b578 hen l).2 M hM d (by omega)) (e2_okGB_ok cog_b578)) rfl (by decide +kernel) (fun M hM => (cs_b579 hen l).2 M hM d (by omega)) (e2_okGB_ok cog_b579)) rfl (by decide +kernel) (fun M hM => (cs_b580 hen l).2 M hM d (by omega)) (e2_okGB_ok cog_b580)) rfl (by decide +kernel) (fun M hM => (cs_b581 hen l).2 M hM d (by omega)) (e2_okGB_ok cog_b581)) rfl (by decide +kernel) (fun M hM => (cs_b582 hen l).2 M hM d (by omega)) (e2_okGB_ok cog_b582)) rfl (by decide +kernel) (fun M hM => (cs_b583 hen l).2 M hM d (by omega)) (e2_okGB_ok cog_b583)) rfl (by decide +kernel) (fun M hM => (cs_b584 hen l).2 M hM d (by omega)) (e2_okGB_ok cog_b584)) rfl (by decide +kernel) (fun M hM => (cs_b585 hen l).2 M hM d (by omega)) (e2_okGB_ok cog_b585)) rfl (by decide +kernel) (fun M hM => (cs_b586 hen l).2 M hM d (by omega)) (e2_okGB_ok cog_b586)) rfl (by decide +kernel) (fun M hM => (cs_b587 hen l).2 M hM d (by omega)) (e2_okGB_ok cog_b587)) rfl (by decide +kernel) (fun M hM => (cs_b588 hen l).2 M hM d (by omega)) (e2_okGB_ok cog_b588)) rfl (by decide +kernel) (fun M hM => (cs_b589 hen l).2 M hM d (by omega)) (e2_okGB_ok cog_b589)) rfl (by decide +kernel) (fun M hM => (cs_b590 hen l).2 M hM d (by omega)) (e2_okGB_ok cog_b590)) rfl (by decide +kernel) (fun M hM => (cs_b591 hen l).2 M hM d (by omega)) (e2_okGB_ok cog_b591)) rfl (by decide +kernel) (fun M hM => (cs_b592 hen l).2 M hM d (by omega)) (e2_okGB_ok cog_b592)) rfl (by decide +kernel) (fun M hM => (cs_b593 hen l).2 M hM d (by omega)) (e2_okGB_ok cog_b593))) (by decide) co_b602 fun M d _ hC hcall p e R s m args below meth c Q D cA A ads r0 ha hl0 => ?_
  have EN_120 := e2_cutS_ok (bp := 120) (cuts := cu_b602_120) (e2_cuts_len hl0 (by decide +kernel)) (e2_cuts_ok hen ha hcall (hC [76, 192, 195]) (X := e2x_230) ex2_230 (e2_cuts_len hl0 (by decide +kernel)) ck_b602_u120)
  have L_27 : e2_gdM M p l e R s m args below meth c Q D cA A ads r0 49 al_b602_27 [] E_b602_27 h_b602_27 := by
    refine e2_indD (u := 2) (j := 2) (lo := 2147483647) (hi := 2147483667) hl0 (by decide) rfl rfl rfl ci_b602_27 cj_b602_27 ?_
    intro r_27 k_27 hk_27 hp_27 hs_27 hn_27
    have hl_27 : r_27.length ≤ 3 := hs_27.len rfl
    have ha_27 := ha.ext hp_27
    have L_28 : e2_gdM M p l e R s m args below meth c Q D cA A ads r_27 55 al_b602_28 [] E_b602_28 h_b602_28 := by
      refine e2_indL (u := 3) (j := 3) (lo := 2147483648) (hi := 2147483657) (b := 3) (dd := 0) hl_27 (by decide) rfl rfl (Or.inr ⟨rfl, rfl⟩) rfl ci_b602_28 cj_b602_28 ?_
      intro r_28 k_28 hk_28 hp_28 hs_28 hn_28
      have hl_28 : r_28.length ≤ 4 := hs_28.len rfl
      have ha_28 := ha_27.ext hp_28
      exact e2_fromM hen ha_28 hcall (e2_cutA_ok (e2_fa (fun al st E h hc => (hn_27 al st E h hc).ext hp_28) (e2_fa (fun al st E h hc => hn_28 al st E h hc) e2_fz))) (hC [76, 192, 195]) (X := e2x_230) ex2_230 55 ck_b602_28
    have EN_28 := e2_entL (u := 3) (j := 3) (lo := 2147483648) (hi := 2147483657) hl_27 rfl rfl rfl ci_b602_28 cj_b602_28 L_28
    exact e2_fromM hen ha_27 hcall (e2_cutA_ok (e2_fa (fun al st E h hc => (EN_120 al st E h hc).ext hp_27) (e2_fa (fun al st E h hc => EN_28 al st E h hc) e2_fz))) (hC [76, 192, 195]) (X := e2x_230) ex2_230 49 ck_b602_27
  have EN_27 := e2_entL (u := 2) (j := 2) (lo := 2147483647) (hi := 2147483667) hl0 rfl rfl rfl ci_b602_27 cj_b602_27 L_27
  have L_26 : e2_gdM M p l e R s m args below meth c Q D cA A ads r0 2 al_b602_26 [] E_b602_26 h_b602_26 := by
    refine e2_indL (u := 2) (j := 2) (lo := 2147483648) (hi := 2147483657) (b := 2) (dd := 0) hl0 (by decide) rfl rfl (Or.inr ⟨rfl, rfl⟩) rfl ci_b602_26 cj_b602_26 ?_
    intro r_26 k_26 hk_26 hp_26 hs_26 hn_26
    have hl_26 : r_26.length ≤ 3 := hs_26.len rfl
    have ha_26 := ha.ext hp_26
    exact e2_fromM hen ha_26 hcall (e2_cutA_ok (e2_fa (fun al st E h hc => hn_26 al st E h hc) (e2_fa (fun al st E h hc => (EN_27 al st E h hc).ext hp_26) e2_fz))) (hC [76, 192, 195]) (X := e2x_230) ex2_230 2 ck_b602_26
  have EN_26 := e2_entL (u := 2) (j := 2) (lo := 2147483648) (hi := 2147483657) hl0 rfl rfl rfl ci_b602_26 cj_b602_26 L_26
  exact e2_from hen ha hcall (e2_cutA_ok (e2_fa (fun al st E h hc => EN_26 al st E h hc) e2_fz)) (hC [76, 192, 195]) (X := e2x_230) ex2_230 0 ck_b602_e
/-! b603 X10_read, by the values of the second variable -/
def as_b603 : List ev_V := [(2, 83, 0), (11, 0, 4294967295)]
def E_b603 : e2_E := [(2147483648, 2147583648, 0, 0), (2147483648, 2147483656, 1, 0)]
def bn4156 : e2_Q6 := (bn3575, bn3624)
def bn4157 : e2_Q7 := (bn4156, bn3594)
def bn4158 : e2_Q8 := (bn3614, bn4157)
noncomputable def f_b603 : ev_H := (bn4158 : e2_Q8)
noncomputable def q_b603_0 : ev_H := (bn4158 : e2_Q8)
noncomputable def rs_b603 : e2_Rs := [((11, 2147483647, 2147483668), q_b603_0)]
noncomputable def s_b603 : e2_Sm := (230, as_b603, E_b603, f_b603, rs_b603)
set_option maxRecDepth 1000000 in
theorem co_b603 : e2_okSB E_b603.length as_b603 f_b603 rs_b603 = true := by decide +kernel
set_option maxRecDepth 1000000 in
theorem cp_b603_0 : e2_if (e2_lle (e2_vl9 (E_b603.set 1 (2147483648, 2147483648, 1, 0))) s_b594.2.1 as_b603) (e2_if (e2_pre s_b594.2.2.1.length s_b594.2.2.1 0 (E_b603.set 1 (2147483648, 2147483648, 1, 0))) (e2_if (e2_hlf (E_b603.set 1 (2147483648, 2147483648, 1, 0)) 8 s_b594.2.2.2.1 f_b603) (e2_allR s_b594.2.2.2.2 fun q => e2_fin rs_b603 q.1 (E_b603.set 1 (2147483648, 2147483648, 1, 0)) (e2_mrg 8 s_b594.2.2.2.1 q.2 f_b603)))) = true := by decide +kernel
set_option maxRecDepth 1000000 in
theorem cp_b603_1 : e2_if (e2_lle (e2_vl9 (E_b603.set 1 (2147483649, 2147483649, 1, 0))) s_b595.2.1 as_b603) (e2_if (e2_pre s_b595.2.2.1.length s_b595.2.2.1 0 (E_b603.set 1 (2147483649, 2147483649, 1, 0))) (e2_if (e2_hlf (E_b603.set 1 (2147483649, 2147483649, 1, 0)) 8 s_b595.2.2.2.1 f_b603) (e2_allR s_b595.2.2.2.2 fun q => e2_fin rs_b603 q.1 (E_b603.set 1 (2147483649, 2147483649, 1, 0)) (e2_mrg 8 s_b595.2.2.2.1 q.2 f_b603)))) = true := by decide +kernel
set_option maxRecDepth 1000000 in
theorem cp_b603_2 : e2_if (e2_lle (e2_vl9 (E_b603.set 1 (2147483650, 2147483650, 1, 0))) s_b596.2.1 as_b603) (e2_if (e2_pre s_b596.2.2.1.length s_b596.2.2.1 0 (E_b603.set 1 (2147483650, 2147483650, 1, 0))) (e2_if (e2_hlf (E_b603.set 1 (2147483650, 2147483650, 1, 0)) 8 s_b596.2.2.2.1 f_b603) (e2_allR s_b596.2.2.2.2 fun q => e2_fin rs_b603 q.1 (E_b603.set 1 (2147483650, 2147483650, 1, 0)) (e2_mrg 8 s_b596.2.2.2.1 q.2 f_b603)))) = true := by decide +kernel
set_option maxRecDepth 1000000 in
theorem cp_b603_3 : e2_if (e2_lle (e2_vl9 (E_b603.set 1 (2147483651, 2147483651, 1, 0))) s_b597.2.1 as_b603) (e2_if (e2_pre s_b597.2.2.1.length s_b597.2.2.1 0 (E_b603.set 1 (2147483651, 2147483651, 1, 0))) (e2_if (e2_hlf (E_b603.set 1 (2147483651, 2147483651, 1, 0)) 8 s_b597.2.2.2.1 f_b603) (e2_allR s_b597.2.2.2.2 fun q => e2_fin rs_b603 q.1 (E_b603.set 1 (2147483651, 2147483651, 1, 0)) (e2_mrg 8 s_b597.2.2.2.1 q.2 f_b603)))) = true := by decide +kernel
set_option maxRecDepth 1000000 in
theorem cp_b603_4 : e2_if (e2_lle (e2_vl9 (E_b603.set 1 (2147483652, 2147483652, 1, 0))) s_b598.2.1 as_b603) (e2_if (e2_pre s_b598.2.2.1.length s_b598.2.2.1 0 (E_b603.set 1 (2147483652, 2147483652, 1, 0))) (e2_if (e2_hlf (E_b603.set 1 (2147483652, 2147483652, 1, 0)) 8 s_b598.2.2.2.1 f_b603) (e2_allR s_b598.2.2.2.2 fun q => e2_fin rs_b603 q.1 (E_b603.set 1 (2147483652, 2147483652, 1, 0)) (e2_mrg 8 s_b598.2.2.2.1 q.2 f_b603)))) = true := by decide +kernel
set_option maxRecDepth 1000000 in
theorem cp_b603_5 : e2_if (e2_lle (e2_vl9 (E_b603.set 1 (2147483653, 2147483653, 1, 0))) s_b599.2.1 as_b603) (e2_if (e2_pre s_b599.2.2.1.length s_b599.2.2.1 0 (E_b603.set 1 (2147483653, 2147483653, 1, 0))) (e2_if (e2_hlf (E_b603.set 1 (2147483653, 2147483653, 1, 0)) 8 s_b599.2.2.2.1 f_b603) (e2_allR s_b599.2.2.2.2 fun q => e2_fin rs_b603 q.1 (E_b603.set 1 (2147483653, 2147483653, 1, 0)) (e2_mrg 8 s_b599.2.2.2.1 q.2 f_b603)))) = true := by decide +kernel
set_option maxRecDepth 1000000 in
theorem cp_b603_6 : e2_if (e2_lle (e2_vl9 (E_b603.set 1 (2147483654, 2147483654, 1, 0))) s_b600.2.1 as_b603) (e2_if (e2_pre s_b600.2.2.1.length s_b600.2.2.1 0 (E_b603.set 1 (2147483654, 2147483654, 1, 0))) (e2_if (e2_hlf (E_b603.set 1 (2147483654, 2147483654, 1, 0)) 8 s_b600.2.2.2.1 f_b603) (e2_allR s_b600.2.2.2.2 fun q => e2_fin rs_b603 q.1 (E_b603.set 1 (2147483654, 2147483654, 1, 0)) (e2_mrg 8 s_b600.2.2.2.1 q.2 f_b603)))) = true := by decide +kernel
set_option maxRecDepth 1000000 in
theorem cp_b603_7 : e2_if (e2_lle (e2_vl9 (E_b603.set 1 (2147483655, 2147483655, 1, 0))) s_b601.2.1 as_b603) (e2_if (e2_pre s_b601.2.2.1.length s_b601.2.2.1 0 (E_b603.set 1 (2147483655, 2147483655, 1, 0))) (e2_if (e2_hlf (E_b603.set 1 (2147483655, 2147483655, 1, 0)) 8 s_b601.2.2.2.1 f_b603) (e2_allR s_b601.2.2.2.2 fun q => e2_fin rs_b603 q.1 (E_b603.set 1 (2147483655, 2147483655, 1, 0)) (e2_mrg 8 s_b601.2.2.2.1 q.2 f_b603)))) = true := by decide +kernel
set_option maxRecDepth 1000000 in
theorem cp_b603_8 : e2_if (e2_lle (e2_vl9 (E_b603.set 1 (2147483656, 2147483656, 1, 0))) s_b602.2.1 as_b603) (e2_if (e2_pre s_b602.2.2.1.length s_b602.2.2.1 0 (E_b603.set 1 (2147483656, 2147483656, 1, 0))) (e2_if (e2_hlf (E_b603.set 1 (2147483656, 2147483656, 1, 0)) 8 s_b602.2.2.2.1 f_b603) (e2_allR s_b602.2.2.2.2 fun q => e2_fin rs_b603 q.1 (E_b603.set 1 (2147483656, 2147483656, 1, 0)) (e2_mrg 8 s_b602.2.2.2.1 q.2 f_b603)))) = true := by decide +kernel
theorem cs_b603 (hen : en_ok) (l : Launch) : e2_smOk l 5 s_b603 := by
  refine ⟨e2_okSB_ok co_b603, fun M hM d hd => e2_Met.split1 (E := E_b603) (lo := 2147483648) (hi := 2147483656) rfl fun s h1 h2 => ?_⟩
  have hs : s = 2147483648 ∨ s = 2147483649 ∨ s = 2147483650 ∨ s = 2147483651 ∨ s = 2147483652 ∨ s = 2147483653 ∨ s = 2147483654 ∨ s = 2147483655 ∨ s = 2147483656 := by omega
  rcases hs with rfl | rfl | rfl | rfl | rfl | rfl | rfl | rfl | rfl
  · exact e2_part1 (s := s_b594) (cs_b594 hen l) hM (Nat.le_trans (by decide) hd) cp_b603_0
  · exact e2_part1 (s := s_b595) (cs_b595 hen l) hM (Nat.le_trans (by decide) hd) cp_b603_1
  · exact e2_part1 (s := s_b596) (cs_b596 hen l) hM (Nat.le_trans (by decide) hd) cp_b603_2
  · exact e2_part1 (s := s_b597) (cs_b597 hen l) hM (Nat.le_trans (by decide) hd) cp_b603_3
  · exact e2_part1 (s := s_b598) (cs_b598 hen l) hM (Nat.le_trans (by decide) hd) cp_b603_4
  · exact e2_part1 (s := s_b599) (cs_b599 hen l) hM (Nat.le_trans (by decide) hd) cp_b603_5
  · exact e2_part1 (s := s_b600) (cs_b600 hen l) hM (Nat.le_trans (by decide) hd) cp_b603_6
  · exact e2_part1 (s := s_b601) (cs_b601 hen l) hM (Nat.le_trans (by decide) hd) cp_b603_7
  · exact e2_part1 (s := s_b602) (cs_b602 hen l) hM (Nat.le_trans (by decide) hd) cp_b603_8
