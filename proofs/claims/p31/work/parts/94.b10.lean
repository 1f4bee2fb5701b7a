/-! CONTRACTS b, printed by a program -/
/-! b217 X10_watch -/
def as_b217 : List ev_V := [(2, 83, 0)]
def E_b217 : e2_E := [(2147483648, 2147583648, 0, 0), (2147483648, 2147483656, 1, 0), (2147483648, 2147483688, 2, 0), (2147483648, 2147483688, 3, 0)]
noncomputable def f_b217 : ev_H := (bn1582 : e2_Q8)
noncomputable def q_b217_0 : ev_H := (bn1582 : e2_Q8)
noncomputable def rs_b217 : e2_Rs := [((11, 0, 4294967295), q_b217_0)]
noncomputable def s_b217 : e2_Sm := (270, as_b217, E_b217, f_b217, rs_b217)
noncomputable def S_b217 : List e2_Sm := [s_b13, s_b15, s_b16, s_b93, s_b133]
noncomputable def I_b217 : List e2_In := [(215, 2, e2x_215), (216, 1, e2x_216)]
set_option maxRecDepth 1000000 in
theorem co_b217 : e2_okSB E_b217.length as_b217 f_b217 rs_b217 = true := by decide +kernel
def al_b217_0 : List ev_V := [(2, 83, 0), (11, 0, 4294967295), (1, 4, 4294967296)]
def E_b217_0 : e2_E := [(2147483648, 2147583648, 0, 0), (2147483648, 2147483656, 1, 0), (2147483648, 2147483688, 2, 0), (2147483648, 2147483688, 3, 0), (2147483648, 2147483668, 4, 0)]
noncomputable def h_b217_0 : ev_H := (bn1582 : e2_Q8)
noncomputable def cl_b217_e : List (Nat × e2_S) := [(8, e2_cutL (al_b217_0.set 2 (11, 2147483648, 2147483668)) 4 (E_b217_0.take 4) h_b217_0)]
set_option maxRecDepth 1000000 in
theorem ck_b217_e : e2_run (e2_cal S_b217 I_b217 4000 1) (e2_fin rs_b217) e2x_270 (e2_bpL cl_b217_e) (e2_cutA cl_b217_e) 4000 (e2_seek e2x_270 0) (e2_al 3 as_b217) [] E_b217 f_b217 = true := by decide +kernel
noncomputable def cl_b217_0 : List (Nat × e2_S) := [(8, e2_cutL (al_b217_0.set 2 (13, 12, 2147483668)) 4 (E_b217_0.take 4) h_b217_0)]
set_option maxRecDepth 1000000 in
theorem ck_b217_0 : e2_runM (e2_cal S_b217 I_b217 4000 1) (e2_fin rs_b217) e2x_270 (e2_bpL cl_b217_0) (e2_cutA cl_b217_0) 4000 (e2_seek e2x_270 8) al_b217_0 [] E_b217_0 h_b217_0 = true := by decide +kernel
set_option maxRecDepth 1000000 in
theorem ci_b217_0 : e2_idl 4 (al_b217_0.set 2 (9, 0, 0)) = true := by decide +kernel
set_option maxRecDepth 1000000 in
theorem cj_b217_0 : e2_idh 4 8 h_b217_0 = true := by decide +kernel
theorem cs_b217 (hen : en_ok) (l : Launch) : e2_smOk l 7 s_b217 := by
  refine e2_conG (H := 5) (n := 1) (C := evd_270) (S := S_b217) (I := I_b217) (fuel := 4000) hen ei_270 (e2_fa ((cs_b13 hen l).mono (by decide)) (e2_fa (cs_b15 hen l) (e2_fa ((cs_b16 hen l).mono (by decide)) (e2_fa (cs_b93 hen l) (e2_fa ((cs_b133 hen l).mono (by decide)) e2_fz))))) (e2_fa ein_215 (e2_fa ein_216 e2_fz)) (by decide) co_b217 fun M d _ hC hcall p e R s m args below meth c Q D cA A ads r0 ha hl0 => ?_
  have L_0 : e2_gdM M p l e R s m args below meth c Q D cA A ads r0 8 al_b217_0 [] E_b217_0 h_b217_0 := by
    refine e2_indL (u := 4) (j := 2) (lo := 2147483648) (hi := 2147483668) (b := 4) (dd := 0) hl0 (by decide) rfl rfl (Or.inr ⟨rfl, rfl⟩) rfl ci_b217_0 cj_b217_0 ?_
    intro r_0 k_0 hk_0 hp_0 hs_0 hn_0
    have hl_0 : r_0.length ≤ 5 := hs_0.len rfl
    have ha_0 := ha.ext hp_0
    exact e2_fromM hen ha_0 hcall (e2_cutA_ok (e2_fa (fun al st E h hc => hn_0 al st E h hc) e2_fz)) (hC []) (X := e2x_270) ex2_270 8 ck_b217_0
  have EN_0 := e2_entL (u := 4) (j := 2) (lo := 2147483648) (hi := 2147483668) hl0 rfl rfl rfl ci_b217_0 cj_b217_0 L_0
  exact e2_from hen ha hcall (e2_cutA_ok (e2_fa (fun al st E h hc => EN_0 al st E h hc) e2_fz)) (hC []) (X := e2x_270) ex2_270 0 ck_b217_e
/-! b218 X10_watch -/
def as_b218 : List ev_V := [(2, 83, 0)]
def E_b218 : e2_E := [(2147483648, 2147583648, 0, 0), (2147483648, 2147483656, 1, 0), (2147483648, 2147483688, 2, 0), (2147483648, 2147483688, 3, 0)]
noncomputable def f_b218 : ev_H := (bn1586 : e2_Q8)
noncomputable def q_b218_0 : ev_H := (bn1586 : e2_Q8)
noncomputable def rs_b218 : e2_Rs := [((11, 0, 4294967295), q_b218_0)]
noncomputable def s_b218 : e2_Sm := (270, as_b218, E_b218, f_b218, rs_b218)
noncomputable def S_b218 : List e2_Sm := [s_b13, s_b15, s_b18, s_b93, s_b133]
noncomputable def I_b218 : List e2_In := [(215, 2, e2x_215), (216, 1, e2x_216)]
set_option maxRecDepth 1000000 in
theorem co_b218 : e2_okSB E_b218.length as_b218 f_b218 rs_b218 = true := by decide +kernel
def al_b218_0 : List ev_V := [(2, 83, 0), (11, 0, 4294967295), (1, 4, 4294967296)]
def E_b218_0 : e2_E := [(2147483648, 2147583648, 0, 0), (2147483648, 2147483656, 1, 0), (2147483648, 2147483688, 2, 0), (2147483648, 2147483688, 3, 0), (2147483648, 2147483668, 4, 0)]
noncomputable def h_b218_0 : ev_H := (bn1586 : e2_Q8)
noncomputable def cl_b218_e : List (Nat × e2_S) := [(8, e2_cutL (al_b218_0.set 2 (11, 2147483648, 2147483668)) 4 (E_b218_0.take 4) h_b218_0)]
set_option maxRecDepth 1000000 in
theorem ck_b218_e : e2_run (e2_cal S_b218 I_b218 4000 1) (e2_fin rs_b218) e2x_270 (e2_bpL cl_b218_e) (e2_cutA cl_b218_e) 4000 (e2_seek e2x_270 0) (e2_al 3 as_b218) [] E_b218 f_b218 = true := by decide +kernel
noncomputable def cl_b218_0 : List (Nat × e2_S) := [(8, e2_cutL (al_b218_0.set 2 (13, 12, 2147483668)) 4 (E_b218_0.take 4) h_b218_0)]
set_option maxRecDepth 1000000 in
theorem ck_b218_0 : e2_runM (e2_cal S_b218 I_b218 4000 1) (e2_fin rs_b218) e2x_270 (e2_bpL cl_b218_0) (e2_cutA cl_b218_0) 4000 (e2_seek e2x_270 8) al_b218_0 [] E_b218_0 h_b218_0 = true := by decide +kernel
set_option maxRecDepth 1000000 in
theorem ci_b218_0 : e2_idl 4 (al_b218_0.set 2 (9, 0, 0)) = true := by decide +kernel
set_option maxRecDepth 1000000 in
theorem cj_b218_0 : e2_idh 4 8 h_b218_0 = true := by decide +kernel
theorem cs_b218 (hen : en_ok) (l : Launch) (hh : e2_hand_b l) : e2_smOk l 64 s_b218 := by
  refine e2_conG (H := 62) (n := 1) (C := evd_270) (S := S_b218) (I := I_b218) (fuel := 4000) hen ei_270 (e2_fa ((cs_b13 hen l).mono (by decide)) (e2_fa ((cs_b15 hen l).mono (by decide)) (e2_fa (cs_b18 hen l hh) (e2_fa ((cs_b93 hen l).mono (by decide)) (e2_fa ((cs_b133 hen l).mono (by decide)) e2_fz))))) (e2_fa ein_215 (e2_fa ein_216 e2_fz)) (by decide) co_b218 fun M d _ hC hcall p e R s m args below meth c Q D cA A ads r0 ha hl0 => ?_
  have L_0 : e2_gdM M p l e R s m args below meth c Q D cA A ads r0 8 al_b218_0 [] E_b218_0 h_b218_0 := by
    refine e2_indL (u := 4) (j := 2) (lo := 2147483648) (hi := 2147483668) (b := 4) (dd := 0) hl0 (by decide) rfl rfl (Or.inr ⟨rfl, rfl⟩) rfl ci_b218_0 cj_b218_0 ?_
    intro r_0 k_0 hk_0 hp_0 hs_0 hn_0
    have hl_0 : r_0.length ≤ 5 := hs_0.len rfl
    have ha_0 := ha.ext hp_0
    exact e2_fromM hen ha_0 hcall (e2_cutA_ok (e2_fa (fun al st E h hc => hn_0 al st E h hc) e2_fz)) (hC []) (X := e2x_270) ex2_270 8 ck_b218_0
  have EN_0 := e2_entL (u := 4) (j := 2) (lo := 2147483648) (hi := 2147483668) hl0 rfl rfl rfl ci_b218_0 cj_b218_0 L_0
  exact e2_from hen ha hcall (e2_cutA_ok (e2_fa (fun al st E h hc => EN_0 al st E h hc) e2_fz)) (hC []) (X := e2x_270) ex2_270 0 ck_b218_e
/-! b219 X10_watch -/
def as_b219 : List ev_V := [(2, 83, 0)]
def E_b219 : e2_E := [(2147483648, 2147583648, 0, 0), (2147483648, 2147483656, 1, 0), (2147483648, 2147483688, 2, 0), (2147483648, 2147483688, 3, 0)]
noncomputable def f_b219 : ev_H := (bn1587 : e2_Q8)
noncomputable def q_b219_0 : ev_H := (bn1587 : e2_Q8)
noncomputable def rs_b219 : e2_Rs := [((11, 0, 4294967295), q_b219_0)]
noncomputable def s_b219 : e2_Sm := (270, as_b219, E_b219, f_b219, rs_b219)
noncomputable def S_b219 : List e2_Sm := [s_b13, s_b15, s_b20, s_b93, s_b133]
noncomputable def I_b219 : List e2_In := [(215, 2, e2x_215), (216, 1, e2x_216)]
set_option maxRecDepth 1000000 in
theorem co_b219 : e2_okSB E_b219.length as_b219 f_b219 rs_b219 = true := by decide +kernel
def al_b219_0 : List ev_V := [(2, 83, 0), (11, 0, 4294967295), (1, 4, 4294967296)]
def E_b219_0 : e2_E := [(2147483648, 2147583648, 0, 0), (2147483648, 2147483656, 1, 0), (2147483648, 2147483688, 2, 0), (2147483648, 2147483688, 3, 0), (2147483648, 2147483668, 4, 0)]
noncomputable def h_b219_0 : ev_H := (bn1587 : e2_Q8)
noncomputable def cl_b219_e : List (Nat × e2_S) := [(8, e2_cutL (al_b219_0.set 2 (11, 2147483648, 2147483668)) 4 (E_b219_0.take 4) h_b219_0)]
set_option maxRecDepth 1000000 in
theorem ck_b219_e : e2_run (e2_cal S_b219 I_b219 4000 1) (e2_fin rs_b219) e2x_270 (e2_bpL cl_b219_e) (e2_cutA cl_b219_e) 4000 (e2_seek e2x_270 0) (e2_al 3 as_b219) [] E_b219 f_b219 = true := by decide +kernel
noncomputable def cl_b219_0 : List (Nat × e2_S) := [(8, e2_cutL (al_b219_0.set 2 (13, 12, 2147483668)) 4 (E_b219_0.take 4) h_b219_0)]
set_option maxRecDepth 1000000 in
theorem ck_b219_0 : e2_runM (e2_cal S_b219 I_b219 4000 1) (e2_fin rs_b219) e2x_270 (e2_bpL cl_b219_0) (e2_cutA cl_b219_0) 4000 (e2_seek e2x_270 8) al_b219_0 [] E_b219_0 h_b219_0 = true := by decide +kernel
set_option maxRecDepth 1000000 in
theorem ci_b219_0 : e2_idl 4 (al_b219_0.set 2 (9, 0, 0)) = true := by decide +kernel
set_option maxRecDepth 1000000 in
theorem cj_b219_0 : e2_idh 4 8 h_b219_0 = true := by decide +kernel
theorem cs_b219 (hen : en_ok) (l : Launch) : e2_smOk l 7 s_b219 := by
  refine e2_conG (H := 5) (n := 1) (C := evd_270) (S := S_b219) (I := I_b219) (fuel := 4000) hen ei_270 (e2_fa ((cs_b13 hen l).mono (by decide)) (e2_fa (cs_b15 hen l) (e2_fa ((cs_b20 hen l).mono (by decide)) (e2_fa (cs_b93 hen l) (e2_fa ((cs_b133 hen l).mono (by decide)) e2_fz))))) (e2_fa ein_215 (e2_fa ein_216 e2_fz)) (by decide) co_b219 fun M d _ hC hcall p e R s m args below meth c Q D cA A ads r0 ha hl0 => ?_
  have L_0 : e2_gdM M p l e R s m args below meth c Q D cA A ads r0 8 al_b219_0 [] E_b219_0 h_b219_0 := by
    refine e2_indL (u := 4) (j := 2) (lo := 2147483648) (hi := 2147483668) (b := 4) (dd := 0) hl0 (by decide) rfl rfl (Or.inr ⟨rfl, rfl⟩) rfl ci_b219_0 cj_b219_0 ?_
    intro r_0 k_0 hk_0 hp_0 hs_0 hn_0
    have hl_0 : r_0.length ≤ 5 := hs_0.len rfl
    have ha_0 := ha.ext hp_0
    exact e2_fromM hen ha_0 hcall (e2_cutA_ok (e2_fa (fun al st E h hc => hn_0 al st E h hc) e2_fz)) (hC []) (X := e2x_270) ex2_270 8 ck_b219_0
  have EN_0 := e2_entL (u := 4) (j := 2) (lo := 2147483648) (hi := 2147483668) hl0 rfl rfl rfl ci_b219_0 cj_b219_0 L_0
  exact e2_from hen ha hcall (e2_cutA_ok (e2_fa (fun al st E h hc => EN_0 al st E h hc) e2_fz)) (hC []) (X := e2x_270) ex2_270 0 ck_b219_e
/-! b220 X10_watch -/
def as_b220 : List ev_V := [(2, 83, 0)]
def E_b220 : e2_E := [(2147483648, 2147583648, 0, 0), (2147483648, 2147483656, 1, 0), (2147483648, 2147483688, 2, 0), (2147483648, 2147483688, 3, 0)]
noncomputable def f_b220 : ev_H := (bn1591 : e2_Q8)
noncomputable def q_b220_0 : ev_H := (bn1591 : e2_Q8)
noncomputable def rs_b220 : e2_Rs := [((11, 0, 4294967295), q_b220_0)]
noncomputable def s_b220 : e2_Sm := (270, as_b220, E_b220, f_b220, rs_b220)
noncomputable def S_b220 : List e2_Sm := [s_b13, s_b15, s_b22, s_b93, s_b133]
noncomputable def I_b220 : List e2_In := [(215, 2, e2x_215), (216, 1, e2x_216)]
set_option maxRecDepth 1000000 in
theorem co_b220 : e2_okSB E_b220.length as_b220 f_b220 rs_b220 = true := by decide +kernel
def al_b220_0 : List ev_V := [(2, 83, 0), (11, 0, 4294967295), (1, 4, 4294967296)]
def E_b220_0 : e2_E := [(2147483648, 2147583648, 0, 0), (2147483648, 2147483656, 1, 0), (2147483648, 2147483688, 2, 0), (2147483648, 2147483688, 3, 0), (2147483648, 2147483668, 4, 0)]
noncomputable def h_b220_0 : ev_H := (bn1591 : e2_Q8)
noncomputable def cl_b220_e : List (Nat × e2_S) := [(8, e2_cutL (al_b220_0.set 2 (11, 2147483648, 2147483668)) 4 (E_b220_0.take 4) h_b220_0)]
set_option maxRecDepth 1000000 in
theorem ck_b220_e : e2_run (e2_cal S_b220 I_b220 4000 1) (e2_fin rs_b220) e2x_270 (e2_bpL cl_b220_e) (e2_cutA cl_b220_e) 4000 (e2_seek e2x_270 0) (e2_al 3 as_b220) [] E_b220 f_b220 = true := by decide +kernel
noncomputable def cl_b220_0 : List (Nat × e2_S) := [(8, e2_cutL (al_b220_0.set 2 (13, 12, 2147483668)) 4 (E_b220_0.take 4) h_b220_0)]
set_option maxRecDepth 1000000 in
theorem ck_b220_0 : e2_runM (e2_cal S_b220 I_b220 4000 1) (e2_fin rs_b220) e2x_270 (e2_bpL cl_b220_0) (e2_cutA cl_b220_0) 4000 (e2_seek e2x_270 8) al_b220_0 [] E_b220_0 h_b220_0 = true := by decide +kernel
set_option maxRecDepth 1000000 in
theorem ci_b220_0 : e2_idl 4 (al_b220_0.set 2 (9, 0, 0)) = true := by decide +kernel
set_option maxRecDepth 1000000 in
theorem cj_b220_0 : e2_idh 4 8 h_b220_0 = true := by decide +kernel
theorem cs_b220 (hen : en_ok) (l : Launch) (hh : e2_hand_b l) : e2_smOk l 64 s_b220 := by
  refine e2_conG (H := 62) (n := 1) (C := evd_270) (S := S_b220) (I := I_b220) (fuel := 4000) hen ei_270 (e2_fa ((cs_b13 hen l).mono (by decide)) (e2_fa ((cs_b15 hen l).mono (by decide)) (e2_fa (cs_b22 hen l hh) (e2_fa ((cs_b93 hen l).mono (by decide)) (e2_fa ((cs_b133 hen l).mono (by decide)) e2_fz))))) (e2_fa ein_215 (e2_fa ein_216 e2_fz)) (by decide) co_b220 fun M d _ hC hcall p e R s m args below meth c Q D cA A ads r0 ha hl0 => ?_
  have L_0 : e2_gdM M p l e R s m args below meth c Q D cA A ads r0 8 al_b220_0 [] E_b220_0 h_b220_0 := by
    refine e2_indL (u := 4) (j := 2) (lo := 2147483648) (hi := 2147483668) (b := 4) (dd := 0) hl0 (by decide) rfl rfl (Or.inr ⟨rfl, rfl⟩) rfl ci_b220_0 cj_b220_0 ?_
    intro r_0 k_0 hk_0 hp_0 hs_0 hn_0
    have hl_0 : r_0.length ≤ 5 := hs_0.len rfl
    have ha_0 := ha.ext hp_0
    exact e2_fromM hen ha_0 hcall (e2_cutA_ok (e2_fa (fun al st E h hc => hn_0 al st E h hc) e2_fz)) (hC []) (X := e2x_270) ex2_270 8 ck_b220_0
  have EN_0 := e2_entL (u := 4) (j := 2) (lo := 2147483648) (hi := 2147483668) hl0 rfl rfl rfl ci_b220_0 cj_b220_0 L_0
  exact e2_from hen ha hcall (e2_cutA_ok (e2_fa (fun al st E h hc => EN_0 al st E h hc) e2_fz)) (hC []) (X := e2x_270) ex2_270 0 ck_b220_e
/-! b221 X10_cows -/
def as_b221 : List ev_V := [(2, 83, 0), (11, 0, 4294967295), (11, 0, 4294967295)]
def E_b221 : e2_E := [(2147483648, 2147583648, 0, 0), (2147483648, 2147483656, 1, 0), (2147483648, 2147483688, 2, 0), (2147483648, 2147483688, 3, 0)]
noncomputable def f_b221 : ev_H := (bn1662 : e2_Q8)
noncomputable def q_b221_0 : ev_H := (bn1662 : e2_Q8)
noncomputable def rs_b221 : e2_Rs := [((11, 0, 4294967295), q_b221_0)]
noncomputable def s_b221 : e2_Sm := (271, as_b221, E_b221, f_b221, rs_b221)
noncomputable def S_b221 : List e2_Sm := [s_b2, s_b13, s_b15, s_b93, s_b124, s_b132]
noncomputable def I_b221 : List e2_In := [(212, 3, e2x_212), (215, 2, e2x_215), (216, 1, e2x_216), (220, 2, e2x_220)]
set_option maxRecDepth 1000000 in
theorem co_b221 : e2_okSB E_b221.length as_b221 f_b221 rs_b221 = true := by decide +kernel
def al_b221_0 : List ev_V := [(2, 83, 0), (11, 2147483648, 2147483651), (11, 2147483648, 2147483649), (11, 0, 4294967295), (11, 0, 4294967295), (1, 4, 4294967296)]
def E_b221_0 : e2_E := [(2147483648, 2147583648, 0, 0), (2147483648, 2147483656, 1, 0), (2147483648, 2147483688, 2, 0), (2147483648, 2147483688, 3, 0), (2147483648, 2147483668, 4, 0)]
noncomputable def h_b221_0 : ev_H := (bn1662 : e2_Q8)
noncomputable def cl_b221_e : List (Nat × e2_S) := [(36, e2_cutL (al_b221_0.set 5 (11, 2147483648, 2147483668)) 4 (E_b221_0.take 4) h_b221_0)]
set_option maxRecDepth 1000000 in
theorem ck_b221_e : e2_run (e2_cal S_b221 I_b221 4000 2) (e2_fin rs_b221) e2x_271 (e2_bpL cl_b221_e) (e2_cutA cl_b221_e) 4000 (e2_seek e2x_271 0) (e2_al 6 as_b221) [] E_b221 f_b221 = true := by decide +kernel
noncomputable def cl_b221_0 : List (Nat × e2_S) := [(36, e2_cutL (al_b221_0.set 5 (13, 12, 2147483668)) 4 (E_b221_0.take 4) h_b221_0)]
set_option maxRecDepth 1000000 in
theorem ck_b221_0 : e2_runM (e2_cal S_b221 I_b221 4000 2) (e2_fin rs_b221) e2x_271 (e2_bpL cl_b221_0) (e2_cutA cl_b221_0) 4000 (e2_seek e2x_271 36) al_b221_0 [] E_b221_0 h_b221_0 = true := by decide +kernel
set_option maxRecDepth 1000000 in
theorem ci_b221_0 : e2_idl 4 (al_b221_0.set 5 (9, 0, 0)) = true := by decide +kernel
set_option maxRecDepth 1000000 in
theorem cj_b221_0 : e2_idh 4 8 h_b221_0 = true := by decide +kernel
theorem cs_b221 (hen : en_ok) (l : Launch) (hh : e2_hand_b l) : e2_smOk l 63 s_b221 := by
  refine e2_conG (H := 60) (n := 2) (C := evd_271) (S := S_b221) (I := I_b221) (fuel := 4000) hen ei_271 (e2_fa (hh _ hm_b2) (e2_fa ((cs_b13 hen l).mono (by decide)) (e2_fa ((cs_b15 hen l).mono (by decide)) (e2_fa ((cs_b93 hen l).mono (by decide)) (e2_fa ((cs_b124 hen l).mono (by decide)) (e2_fa ((cs_b132 hen l).mono (by decide)) e2_fz)))))) (e2_fa ein_212 (e2_fa ein_215 (e2_fa ein_216 (e2_fa ein_220 e2_fz)))) (by decide) co_b221 fun M d _ hC hcall p e R s m args below meth c Q D cA A ads r0 ha hl0 => ?_
  have L_0 : e2_gdM M p l e R s m args below meth c Q D cA A ads r0 36 al_b221_0 [] E_b221_0 h_b221_0 := by
    refine e2_indL (u := 4) (j := 5) (lo := 2147483648) (hi := 2147483668) (b := 4) (dd := 0) hl0 (by decide) rfl rfl (Or.inr ⟨rfl, rfl⟩) rfl ci_b221_0 cj_b221_0 ?_
    intro r_0 k_0 hk_0 hp_0 hs_0 hn_0
    have hl_0 : r_0.length ≤ 5 := hs_0.len rfl
    have ha_0 := ha.ext hp_0
    exact e2_fromM hen ha_0 hcall (e2_cutA_ok (e2_fa (fun al st E h hc => hn_0 al st E h hc) e2_fz)) (hC []) (X := e2x_271) ex2_271 36 ck_b221_0
  have EN_0 := e2_entL (u := 4) (j := 5) (lo := 2147483648) (hi := 2147483668) hl0 rfl rfl rfl ci_b221_0 cj_b221_0 L_0
  exact e2_from hen ha hcall (e2_cutA_ok (e2_fa (fun al st E h hc => EN_0 al st E h hc) e2_fz)) (hC []) (X := e2x_271) ex2_271 0 ck_b221_e
/-! b222 X10_cows -/
def as_b222 : List ev_V := [(2, 83, 0), (11, 0, 4294967295), (11, 0, 4294967295)]
def E_b222 : e2_E := [(2147483648, 2147583648, 0, 0), (2147483648, 2147483656, 1, 0), (2147483648, 2147483688, 2, 0), (2147483648, 2147483688, 3, 0)]
noncomputable def f_b222 : ev_H := (bn1666 : e2_Q8)
noncomputable def q_b222_0 : ev_H := (bn1666 : e2_Q8)
noncomputable def rs_b222 : e2_Rs := [((11, 0, 4294967295), q_b222_0)]
noncomputable def s_b222 : e2_Sm := (271, as_b222, E_b222, f_b222, rs_b222)
noncomputable def S_b222 : List e2_Sm := [s_b2, s_b13, s_b15, s_b93, s_b126, s_b132]
noncomputable def I_b222 : List e2_In := [(212, 3, e2x_212), (215, 2, e2x_215), (216, 1, e2x_216), (220, 2, e2x_220)]
set_option maxRecDepth 1000000 in
theorem co_b222 : e2_okSB E_b222.length as_b222 f_b222 rs_b222 = true := by decide +kernel
def al_b222_0 : List ev_V := [(2, 83, 0), (11, 2147483648, 2147483651), (11, 2147483648, 2147483649), (11, 0, 4294967295), (11, 0, 4294967295), (1, 4, 4294967296)]
def E_b222_0 : e2_E := [(2147483648, 2147583648, 0, 0), (2147483648, 2147483656, 1, 0), (2147483648, 2147483688, 2, 0), (2147483648, 2147483688, 3, 0), (2147483648, 2147483668, 4, 0)]
noncomputable def h_b222_0 : ev_H := (bn1666 : e2_Q8)
noncomputable def cl_b222_e : List (Nat × e2_S) := [(36, e2_cutL (al_b222_0.set 5 (11, 2147483648, 2147483668)) 4 (E_b222_0.take 4) h_b222_0)]
set_option maxRecDepth 1000000 in
theorem ck_b222_e : e2_run (e2_cal S_b222 I_b222 4000 2) (e2_fin rs_b222) e2x_271 (e2_bpL cl_b222_e) (e2_cutA cl_b222_e) 4000 (e2_seek e2x_271 0) (e2_al 6 as_b222) [] E_b222 f_b222 = true := by decide +kernel
noncomputable def cl_b222_0 : List (Nat × e2_S) := [(36, e2_cutL (al_b222_0.set 5 (13, 12, 2147483668)) 4 (E_b222_0.take 4) h_b222_0)]
set_option maxRecDepth 1000000 in
theorem ck_b222_0 : e2_runM (e2_cal S_b222 I_b222 4000 2) (e2_fin rs_b222) e2x_271 (e2_bpL cl_b222_0) (e2_cutA cl_b222_0) 4000 (e2_seek e2x_271 36) al_b222_0 [] E_b222_0 h_b222_0 = true := by decide +kernel
set_option maxRecDepth 1000000 in
theorem ci_b222_0 : e2_idl 4 (al_b222_0.set 5 (9, 0, 0)) = true := by decide +kernel
set_option maxRecDepth 1000000 in
theorem cj_b222_0 : e2_idh 4 8 h_b222_0 = true := by decide +kernel
theorem cs_b222 (hen : en_ok) (l : Launch) (hh : e2_hand_b l) : e2_smOk l 66 s_b222 := by
  refine e2_conG (H := 63) (n := 2) (C := evd_271) (S := S_b222) (I := I_b222) (fuel := 4000) hen ei_271 (e2_fa ((hh _ hm_b2).mono (by decide)) (e2_fa ((cs_b13 hen l).mono (by decide)) (e2_fa ((cs_b15 hen l).mono (by decide)) (e2_fa ((cs_b93 hen l).mono (by decide)) (e2_fa (cs_b126 hen l hh) (e2_fa ((cs_b132 hen l).mono (by decide)) e2_fz)))))) (e2_fa ein_212 (e2_fa ein_215 (e2_fa ein_216 (e2_fa ein_220 e2_fz)))) (by decide) co_b222 fun M d _ hC hcall p e R s m args below meth c Q D cA A ads r0 ha hl0 => ?_
  have L_0 : e2_gdM M p l e R s m args below meth c Q D cA A ads r0 36 al_b222_0 [] E_b222_0 h_b222_0 := by
    refine e2_indL (u := 4) (j := 5) (lo := 2147483648) (hi := 2147483668) (b := 4) (dd := 0) hl0 (by decide) rfl rfl (Or.inr ⟨rfl, rfl⟩) rfl ci_b222_0 cj_b222_0 ?_
    intro r_0 k_0 hk_0 hp_0 hs_0 hn_0
    have hl_0 : r_0.length ≤ 5 := hs_0.len rfl
    have ha_0 := ha.ext hp_0
    exact e2_fromM hen ha_0 hcall (e2_cutA_ok (e2_fa (fun al st E h hc => hn_0 al st E h hc) e2_fz)) (hC []) (X := e2x_271) ex2_271 36 ck_b222_0
  have EN_0 := e2_entL (u := 4) (j := 5) (lo := 2147483648) (hi := 2147483668) hl0 rfl rfl rfl ci_b222_0 cj_b222_0 L_0
  exact e2_from hen ha hcall (e2_cutA_ok (e2_fa (fun al st E h hc => EN_0 al st E h hc) e2_fz)) (hC []) (X := e2x_271) ex2_271 0 ck_b222_e
/-! b223 X10_cows -/
def as_b223 : List ev_V := [(2, 83, 0), (11, 0, 4294967295), (11, 0, 4294967295)]
def E_b223 : e2_E := [(2147483648, 2147583648, 0, 0), (2147483648, 2147483656, 1, 0), (2147483648, 2147483688, 2, 0), (2147483648, 2147483688, 3, 0)]
noncomputable def f_b223 : ev_H := (bn1667 : e2_Q8)
noncomputable def q_b223_0 : ev_H := (bn1667 : e2_Q8)
noncomputable def rs_b223 : e2_Rs := [((11, 0, 4294967295), q_b223_0)]
noncomputable def s_b223 : e2_Sm := (271, as_b223, E_b223, f_b223, rs_b223)
noncomputable def S_b223 : List e2_Sm := [s_b2, s_b13, s_b15, s_b93, s_b128, s_b132]
noncomputable def I_b223 : List e2_In := [(212, 3, e2x_212), (215, 2, e2x_215), (216, 1, e2x_216), (220, 2, e2x_220)]
set_option maxRecDepth 1000000 in
theorem co_b223 : e2_okSB E_b223.length as_b223 f_b223 rs_b223 = true := by decide +kernel
def al_b223_0 : List ev_V := [(2, 83, 0), (11, 2147483648, 2147483651), (11, 2147483648, 2147483649), (11, 0, 4294967295), (11, 0, 4294967295), (1, 4, 4294967296)]
def E_b223_0 : e2_E := [(2147483648, 2147583648, 0, 0), (2147483648, 2147483656, 1, 0), (2147483648, 2147483688, 2, 0), (2147483648, 2147483688, 3, 0), (2147483648, 2147483668, 4, 0)]
noncomputable def h_b223_0 : ev_H := (bn1667 : e2_Q8)
noncomputable def cl_b223_e : List (Nat × e2_S) := [(36, e2_cutL (al_b223_0.set 5 (11, 2147483648, 2147483668)) 4 (E_b223_0.take 4) h_b223_0)]
set_option maxRecDepth 1000000 in
theorem ck_b223_e : e2_run (e2_cal S_b223 I_b223 4000 2) (e2_fin rs_b223) e2x_271 (e2_bpL cl_b223_e) (e2_cutA cl_b223_e) 4000 (e2_seek e2x_271 0) (e2_al 6 as_b223) [] E_b223 f_b223 = true := by decide +kernel
noncomputable def cl_b223_0 : List (Nat × e2_S) := [(36, e2_cutL (al_b223_0.set 5 (13, 12, 2147483668)) 4 (E_b223_0.take 4) h_b223_0)]
set_option maxRecDepth 1000000 in
theorem ck_b223_0 : e2_runM (e2_cal S_b223 I_b223 4000 2) (e2_fin rs_b223) e2x_271 (e2_bpL cl_b223_0) (e2_cutA cl_b223_0) 4000 (e2_seek e2x_271 36) al_b223_0 [] E_b223_0 h_b223_0 = true := by decide +kernel
set_option maxRecDepth 1000000 in
theorem ci_b223_0 : e2_idl 4 (al_b223_0.set 5 (9, 0, 0)) = true := by decide +kernel
set_option maxRecDepth 1000000 in
theorem cj_b223_0 : e2_idh 4 8 h_b223_0 = true := by decide +kernel
theorem cs_b223 (hen : en_ok) (l : Launch) (hh : e2_hand_b l) : e2_smOk l 63 s_b223 := by
  refine e2_conG (H := 60) (n := 2) (C := evd_271) (S := S_b223) (I := I_b223) (fuel := 4000) hen ei_271 (e2_fa (hh _ hm_b2) (e2_fa ((cs_b13 hen l).mono (by decide)) (e2_fa ((cs_b15 hen l).mono (by decide)) (e2_fa ((cs_b93 hen l).mono (by decide)) (e2_fa ((cs_b128 hen l).mono (by decide)) (e2_fa ((cs_b132 hen l).mono (by decide)) e2_fz)))))) (e2_fa ein_212 (e2_fa ein_215 (e2_fa ein_216 (e2_fa ein_220 e2_fz)))) (by decide) co_b223 fun M d _ hC hcall p e R s m args below meth c Q D cA A ads r0 ha hl0 => ?_
  have L_0 : e2_gdM M p l e R s m args below meth c Q D cA A ads r0 36 al_b223_0 [] E_b223_0 h_b223_0 := by
    refine e2_indL (u := 4) (j := 5) (lo := 2147483648) (hi := 2147483668) (b := 4) (dd := 0) hl0 (by decide) rfl rfl (Or.inr ⟨rfl, rfl⟩) rfl ci_b223_0 cj_b223_0 ?_
    intro r_0 k_0 hk_0 hp_0 hs_0 hn_0
    have hl_0 : r_0.length ≤ 5 := hs_0.len rfl
    have ha_0 := ha.ext hp_0
    exact e2_fromM hen ha_0 hcall (e2_cutA_ok (e2_fa (fun al st E h hc => hn_0 al st E h hc) e2_fz)) (hC []) (X := e2x_271) ex2_271 36 ck_b223_0
  have EN_0 := e2_entL (u := 4) (j := 5) (lo := 2147483648) (hi := 2147483668) hl0 rfl rfl rfl ci_b223_0 cj_b223_0 L_0
  exact e2_from hen ha hcall (e2_cutA_ok (e2_fa (fun al st E h hc => EN_0 al st E h hc) e2_fz)) (hC []) (X := e2x_271) ex2_271 0 ck_b223_e
/-! b224 X10_cows -/
def as_b224 : List ev_V := [(2, 83, 0), (11, 0, 4294967295), (11, 0, 4294967295)]
def E_b224 : e2_E := [(2147483648, 2147583648, 0, 0), (2147483648, 2147483656, 1, 0), (2147483648, 2147483688, 2, 0), (2147483648, 2147483688, 3, 0)]
noncomputable def f_b224 : ev_H := (bn1670 : e2_Q8)
noncomputable def q_b224_0 : ev_H := (bn1670 : e2_Q8)
noncomputable def rs_b224 : e2_Rs := [((11, 0, 4294967295), q_b224_0)]
noncomputable def s_b224 : e2_Sm := (271, as_b224, E_b224, f_b224, rs_b224)
noncomputable def S_b224 : List e2_Sm := [s_b2, s_b13, s_b15, s_b93, s_b130, s_b132]
noncomputable def I_b224 : List e2_In := [(212, 3, e2x_212), (215, 2, e2x_215), (216, 1, e2x_216), (220, 2, e2x_220)]
set_option maxRecDepth 1000000 in
theorem co_b224 : e2_okSB E_b224.length as_b224 f_b224 rs_b224 = true := by decide +kernel
def al_b224_0 : List ev_V := [(2, 83, 0), (11, 2147483648, 2147483651), (11, 2147483648, 2147483649), (11, 0, 4294967295), (11, 0, 4294967295), (1, 4, 4294967296)]
def E_b224_0 : e2_E := [(2147483648, 2147583648, 0, 0), (2147483648, 2147483656, 1, 0), (2147483648, 2147483688, 2, 0), (2147483648, 2147483688, 3, 0), (2147483648, 2147483668, 4, 0)]
noncomputable def h_b224_0 : ev_H := (bn1670 : e2_Q8)
noncomputable def cl_b224_e : List (Nat × e2_S) := [(36, e2_cutL (al_b224_0.set 5 (11, 2147483648, 2147483668)) 4 (E_b224_0.take 4) h_b224_0)]
set_option maxRecDepth 1000000 in
theorem ck_b224_e : e2_run (e2_cal S_b224 I_b224 4000 2) (e2_fin rs_b224) e2x_271 (e2_bpL cl_b224_e) (e2_cutA cl_b224_e) 4000 (e2_seek e2x_271 0) (e2_al 6 as_b224) [] E_b224 f_b224 = true := by decide +kernel
noncomputable def cl_b224_0 : List (Nat × e2_S) := [(36, e2_cutL (al_b224_0.set 5 (13, 12, 2147483668)) 4 (E_b224_0.take 4) h_b224_0)]
set_option maxRecDepth 1000000 in
theorem ck_b224_0 : e2_runM (e2_cal S_b224 I_b224 4000 2) (e2_fin rs_b224) e2x_271 (e2_bpL cl_b224_0) (e2_cutA cl_b224_0) 4000 (e2_seek e2x_271 36) al_b224_0 [] E_b224_0 h_b224_0 = true := by decide +kernel
set_option maxRecDepth 1000000 in
theorem ci_b224_0 : e2_idl 4 (al_b224_0.set 5 (9, 0, 0)) = true := by decide +kernel
set_option maxRecDepth 1000000 in
theorem cj_b224_0 : e2_idh 4 8 h_b224_0 = true := by decide +kernel
theorem cs_b224 (hen : en_ok) (l : Launch) (hh : e2_hand_b l) : e2_smOk l 66 s_b224 := by
  refine e2_conG (H := 63) (n := 2) (C := evd_271) (S := S_b224) (I := I_b224) (fuel := 4000) hen ei_271 (e2_fa ((hh _ hm_b2).mono (by decide)) (e2_fa ((cs_b13 hen l).mono (by decide)) (e2_fa ((cs_b15 hen l).mono (by decide)) (e2_fa ((cs_b93 hen l).mono (by decide)) (e2_fa (cs_b130 hen l hh) (e2_fa ((cs_b132 hen l).mono (by decide)) e2_fz)))))) (e2_fa ein_212 (e2_fa ein_215 (e2_fa ein_216 (e2_fa ein_220 e2_fz)))) (by decide) co_b224 fun M d _ hC hcall p e R s m args below meth c Q D cA A ads r0 ha hl0 => ?_
  have L_0 : e2_gdM M p l e R s m args below meth c Q D cA A ads r0 36 al_b224_0 [] E_b224_0 h_b224_0 := by
    refine e2_indL (u := 4) (j := 5) (lo := 2147483648) (hi := 2147483668) (b := 4) (dd := 0) hl0 (by decide) rfl rfl (Or.inr ⟨rfl, rfl⟩) rfl ci_b224_0 cj_b224_0 ?_
    intro r_0 k_0 hk_0 hp_0 hs_0 hn_0
    have hl_0 : r_0.length ≤ 5 := hs_0.len rfl
    have ha_0 := ha.ext hp_0
    exact e2_fromM hen ha_0 hcall (e2_cutA_ok (e2_fa (fun al st E h hc => hn_0 al st E h hc) e2_fz)) (hC []) (X := e2x_271) ex2_271 36 ck_b224_0
  have EN_0 := e2_entL (u := 4) (j := 5) (lo := 2147483648) (hi := 2147483668) hl0 rfl rfl rfl ci_b224_0 cj_b224_0 L_0
  exact e2_from hen ha hcall (e2_cutA_ok (e2_fa (fun al st E h hc => EN_0 al st E h hc) e2_fz)) (hC []) (X := e2x_271) ex2_271 0 ck_b224_e
/-! b225 X10_answered -/
def as_b225 : List ev_V := [(2, 83, 0), (11, 2147483648, 2147483651), (11, 0, 4294967295), (11, 0, 4294967295)]
def E_b225 : e2_E := [(2147483648, 2147583648, 0, 0), (2147483648, 2147483656, 1, 0), (2147483648, 2147483688, 2, 0), (2147483648, 2147483688, 3, 0)]
def bn1858 : e2_Q7 := (bn1019, bn1712)
def bn1859 : e2_Q8 := (bn1705, bn1858)
noncomputable def f_b225 : ev_H := (bn1859 : e2_Q8)
noncomputable def q_b225_0 : ev_H := (bn1859 : e2_Q8)
noncomputable def rs_b225 : e2_Rs := [((11, 0, 4294967295), q_b225_0)]
noncomputable def s_b225 : e2_Sm := (272, as_b225, E_b225, f_b225, rs_b225)
noncomputable def S_b225 : List e2_Sm := [s_b93, s_b132]
noncomputable def I_b225 : List e2_In := [(215, 2, e2x_215), (216, 1, e2x_216)]
set_option maxRecDepth 1000000 in
theorem co_b225 : e2_okSB E_b225.length as_b225 f_b225 rs_b225 = true := by decide +kernel
def al_b225_0 : List ev_V := [(2, 83, 0), (11, 2147483648, 2147483651), (11, 0, 4294967295), (11, 0, 4294967295), (11, 0, 4294967295), (1, 4, 4294967296), (9, 0, 0)]
def E_b225_0 : e2_E := [(2147483648, 2147583648, 0, 0), (2147483648, 2147483656, 1, 0), (2147483648, 2147483688, 2, 0), (2147483648, 2147483688, 3, 0), (2147483648, 2147483668, 4, 0)]
noncomputable def h_b225_0 : ev_H := (bn1859 : e2_Q8)
noncomputable def cl_b225_e : List (Nat × e2_S) := [(11, e2_cutL (al_b225_0.set 5 (11, 2147483648, 2147483668)) 4 (E_b225_0.take 4) h_b225_0)]
set_option maxRecDepth 1000000 in
theorem ck_b225_e : e2_run (e2_cal S_b225 I_b225 4000 1) (e2_fin rs_b225) e2x_272 (e2_bpL cl_b225_e) (e2_cutA cl_b225_e) 4000 (e2_seek e2x_272 0) (e2_al 7 as_b225) [] E_b225 f_b225 = true := by decide +kernel
noncomputable def cl_b225_0 : List (Nat × e2_S) := [(11, e2_cutL (al_b225_0.set 5 (13, 12, 2147483668)) 4 (E_b225_0.take 4) h_b225_0)]
set_option maxRecDepth 1000000 in
theorem ck_b225_0 : e2_runM (e2_cal S_b225 I_b225 4000 1) (e2_fin rs_b225) e2x_272 (e2_bpL cl_b225_0) (e2_cutA cl_b225_0) 4000 (e2_seek e2x_272 11) al_b225_0 [] E_b225_0 h_b225_0 = true := by decide +kernel
set_option maxRecDepth 1000000 in
theorem ci_b225_0 : e2_idl 4 (al_b225_0.set 5 (9, 0, 0)) = true := by decide +kernel
set_option maxRecDepth 1000000 in
theorem cj_b225_0 : e2_idh 4 8 h_b225_0 = true := by decide +kernel
theorem cs_b225 (hen : en_ok) (l : Launch) : e2_smOk l 7 s_b225 := by
  refine e2_conG (H := 5) (n := 1) (C := evd_272) (S := S_b225) (I := I_b225) (fuel := 4000) hen ei_272 (e2_fa (cs_b93 hen l) (e2_fa ((cs_b132 hen l).mono (by decide)) e2_fz)) (e2_fa ein_215 (e2_fa ein_216 e2_fz)) (by decide) co_b225 fun M d _ hC hcall p e R s m args below meth c Q D cA A ads r0 ha hl0 => ?_
  have L_0 : e2_gdM M p l e R s m args below meth c Q D cA A ads r0 11 al_b225_0 [] E_b225_0 h_b225_0 := by
    refine e2_indL (u := 4) (j := 5) (lo := 2147483648) (hi := 2147483668) (b := 4) (dd := 0) hl0 (by decide) rfl rfl (Or.inr ⟨rfl, rfl⟩) rfl ci_b225_0 cj_b225_0 ?_
    intro r_0 k_0 hk_0 hp_0 hs_0 hn_0
    have hl_0 : r_0.length ≤ 5 := hs_0.len rfl
    have ha_0 := ha.ext hp_0
    exact e2_fromM hen ha_0 hcall (e2_cutA_ok (e2_fa (fun al st E h hc => hn_0 al st E h hc) e2_fz)) (hC []) (X := e2x_272) ex2_272 11 ck_b225_0
  have EN_0 := e2_entL (u := 4) (j := 5) (lo := 2147483648) (hi := 2147483668) hl0 rfl rfl rfl ci_b225_0 cj_b225_0 L_0
  exact e2_from hen ha hcall (e2_cutA_ok (e2_fa (fun al st E h hc => EN_0 al st E h hc) e2_fz)) (hC []) (X := e2x_272) ex2_272 0 ck_b225_e
/-! b226 X10_isOpenSet -/
def as_b226 : List ev_V := [(2, 83, 0), (11, 0, 4294967295)]
def E_b226 : e2_E := [(2147483648, 2147583648, 0, 0), (2147483648, 2147483656, 1, 0), (2147483648, 2147483688, 2, 0), (2147483648, 2147483688, 3, 0)]
noncomputable def f_b226 : ev_H := (bn360 : e2_Q8)
noncomputable def q_b226_0 : ev_H := (bn360 : e2_Q8)
noncomputable def rs_b226 : e2_Rs := [((11, 2147483648, 2147483649), q_b226_0)]
noncomputable def s_b226 : e2_Sm := (273, as_b226, E_b226, f_b226, rs_b226)
noncomputable def S_b226 : List e2_Sm := [s_b15]
noncomputable def I_b226 : List e2_In := []
set_option maxRecDepth 1000000 in
theorem ck_b226 : e2_run (e2_cal S_b226 I_b226 4000 0) (e2_fin rs_b226) e2x_273 (fun _ => false) (fun _ _ _ _ _ => false) 4000 (e2_seek e2x_273 0) (e2_al 2 as_b226) [] E_b226 f_b226 = true := by decide +kernel
set_option maxRecDepth 1000000 in
theorem co_b226 : e2_okSB E_b226.length as_b226 f_b226 rs_b226 = true := by decide +kernel
theorem cs_b226 (hen : en_ok) (l : Launch) : e2_smOk l 6 s_b226 := e2_con0 (H := 5) (n := 0) (C := evd_273) (S := S_b226) (I := I_b226) (fuel := 4000) [] hen ei_273 (e2_fa (cs_b15 hen l) e2_fz) e2_fz (by decide) co_b226 ex2_273 ck_b226
/-! b227 X10_duel -/
def as_b227 : List ev_V := [(2, 83, 0), (11, 0, 4294967295), (11, 0, 4294967295), (11, 0, 4294967295), (11, 0, 4294967295)]
def E_b227 : e2_E := [(2147483648, 2147583648, 0, 0), (2147483648, 2147483656, 1, 0), (2147483648, 2147483688, 2, 0), (2147483648, 2147483688, 3, 0)]
noncomputable def f_b227 : ev_H := (bn1662 : e2_Q8)
noncomputable def q_b227_0 : ev_H := (bn1662 : e2_Q8)
noncomputable def rs_b227 : e2_Rs := [((11, 0, 4294967295), q_b227_0)]
noncomputable def s_b227 : e2_Sm := (274, as_b227, E_b227, f_b227, rs_b227)
noncomputable def S_b227 : List e2_Sm := [s_b13, s_b16, s_b225, s_b226]
noncomputable def I_b227 : List e2_In := [(212, 3, e2x_212), (215, 2, e2x_215), (216, 1, e2x_216), (220, 2, e2x_220)]
set_option maxRecDepth 1000000 in
theorem co_b227 : e2_okSB E_b227.length as_b227 f_b227 rs_b227 = true := by decide +kernel
def al_b227_0 : List ev_V := [(2, 83, 0), (11, 2147483648, 2147483651), (11, 0, 4294967295), (11, 0, 4294967295), (11, 2147483648, 2147483650), (11, 2147483647, 2147483667), (11, 0, 4294967295), (11, 0, 4294967295), (1, 4, 4294967296), (9, 0, 0)]
def E_b227_0 : e2_E := [(2147483648, 2147583648, 0, 0), (2147483648, 2147483656, 1, 0), (2147483648, 2147483688, 2, 0), (2147483648, 2147483688, 3, 0), (2147483648, 2147483668, 4, 0)]
noncomputable def h_b227_0 : ev_H := (bn1662 : e2_Q8)
noncomputable def cl_b227_e : List (Nat × e2_S) := [(60, e2_cutL (al_b227_0.set 8 (11, 2147483648, 2147483668)) 4 (E_b227_0.take 4) h_b227_0)]
set_option maxRecDepth 1000000 in
theorem ck_b227_e : e2_run (e2_cal S_b227 I_b227 4000 2) (e2_fin rs_b227) e2x_274 (e2_bpL cl_b227_e) (e2_cutA cl_b227_e) 4000 (e2_seek e2x_274 0) (e2_al 10 as_b227) [] E_b227 f_b227 = true := by decide +kernel
noncomputable def cl_b227_0 : List (Nat × e2_S) := [(60, e2_cutL (al_b227_0.set 8 (13, 12, 2147483668)) 4 (E_b227_0.take 4) h_b227_0)]
set_option maxRecDepth 1000000 in
theorem ck_b227_0 : e2_runM (e2_cal S_b227 I_b227 4000 2) (e2_fin rs_b227) e2x_274 (e2_bpL cl_b227_0) (e2_cutA cl_b227_0) 4000 (e2_seek e2x_274 60) al_b227_0 [] E_b227_0 h_b227_0 = true := by decide +kernel
set_option maxRecDepth 1000000 in
theorem ci_b227_0 : e2_idl 4 (al_b227_0.set 8 (9, 0, 0)) = true := by decide +kernel
set_option maxRecDepth 1000000 in
theorem cj_b227_0 : e2_idh 4 8 h_b227_0 = true := by decide +kernel
theorem cs_b227 (hen : en_ok) (l : Launch) : e2_smOk l 10 s_b227 := by
  refine e2_conG (H := 7) (n := 2) (C := evd_274) (S := S_b227) (I := I_b227) (fuel := 4000) hen ei_274 (e2_fa ((cs_b13 hen l).mono (by decide)) (e2_fa ((cs_b16 hen l).mono (by decide)) (e2_fa (cs_b225 hen l) (e2_fa ((cs_b226 hen l).mono (by decide)) e2_fz)))) (e2_fa ein_212 (e2_fa ein_215 (e2_fa ein_216 (e2_fa ein_220 e2_fz)))) (by decide) co_b227 fun M d _ hC hcall p e R s m args below meth c Q D cA A ads r0 ha hl0 => ?_
  have L_0 : e2_gdM M p l e R s m args below meth c Q D cA A ads r0 60 al_b227_0 [] E_b227_0 h_b227_0 := by
    refine e2_indL (u := 4) (j := 8) (lo := 2147483648) (hi := 2147483668) (b := 4) (dd := 0) hl0 (by decide) rfl rfl (Or.inr ⟨rfl, rfl⟩) rfl ci_b227_0 cj_b227_0 ?_
    intro r_0 k_0 hk_0 hp_0 hs_0 hn_0
    have hl_0 : r_0.length ≤ 5 := hs_0.len rfl
    have ha_0 := ha.ext hp_0
    exact e2_fromM hen ha_0 hcall (e2_cutA_ok (e2_fa (fun al st E h hc => hn_0 al st E h hc) e2_fz)) (hC []) (X := e2x_274) ex2_274 60 ck_b227_0
  have EN_0 := e2_entL (u := 4) (j := 8) (lo := 2147483648) (hi := 2147483668) hl0 rfl rfl rfl ci_b227_0 cj_b227_0 L_0
  exact e2_from hen ha hcall (e2_cutA_ok (e2_fa (fun al st E h hc => EN_0 al st E h hc) e2_fz)) (hC []) (X := e2x_274) ex2_274 0 ck_b227_e
/-! b228 X10_duel -/
def as_b228 : List ev_V := [(2, 83, 0), (11, 0, 4294967295), (11, 0, 4294967295), (11, 0, 4294967295), (11, 0, 4294967295)]
def E_b228 : e2_E := [(2147483648, 2147583648, 0, 0), (2147483648, 2147483656, 1, 0), (2147483648, 2147483688, 2, 0), (2147483648, 2147483688, 3, 0)]
noncomputable def f_b228 : ev_H := (bn1666 : e2_Q8)
noncomputable def q_b228_0 : ev_H := (bn1666 : e2_Q8)
noncomputable def rs_b228 : e2_Rs := [((11, 0, 4294967295), q_b228_0)]
noncomputable def s_b228 : e2_Sm := (274, as_b228, E_b228, f_b228, rs_b228)
noncomputable def S_b228 : List e2_Sm := [s_b13, s_b18, s_b225, s_b226]
noncomputable def I_b228 : List e2_In := [(212, 3, e2x_212), (215, 2, e2x_215), (216, 1, e2x_216), (220, 2, e2x_220)]
set_option maxRecDepth 1000000 in
theorem co_b228 : e2_okSB E_b228.length as_b228 f_b228 rs_b228 = true := by decide +kernel
def al_b228_0 : List ev_V := [(2, 83, 0), (11, 2147483648, 2147483651), (11, 0, 4294967295), (11, 0, 4294967295), (11, 2147483648, 2147483650), (11, 2147483647, 2147483667), (11, 0, 4294967295), (11, 0, 4294967295), (1, 4, 4294967296), (9, 0, 0)]
def E_b228_0 : e2_E := [(2147483648, 2147583648, 0, 0), (2147483648, 2147483656, 1, 0), (2147483648, 2147483688, 2, 0), (2147483648, 2147483688, 3, 0), (2147483648, 2147483668, 4, 0)]
noncomputable def h_b228_0 : ev_H := (bn1666 : e2_Q8)
noncomputable def cl_b228_e : List (Nat × e2_S) := [(60, e2_cutL (al_b228_0.set 8 (11, 2147483648, 2147483668)) 4 (E_b228_0.take 4) h_b228_0)]
set_option maxRecDepth 1000000 in
theorem ck_b228_e : e2_run (e2_cal S_b228 I_b228 4000 2) (e2_fin rs_b228) e2x_274 (e2_bpL cl_b228_e) (e2_cutA cl_b228_e) 4000 (e2_seek e2x_274 0) (e2_al 10 as_b228) [] E_b228 f_b228 = true := by decide +kernel
noncomputable def cl_b228_0 : List (Nat × e2_S) := [(60, e2_cutL (al_b228_0.set 8 (13, 12, 2147483668)) 4 (E_b228_0.take 4) h_b228_0)]
set_option maxRecDepth 1000000 in
theorem ck_b228_0 : e2_runM (e2_cal S_b228 I_b228 4000 2) (e2_fin rs_b228) e2x_274 (e2_bpL cl_b228_0) (e2_cutA cl_b228_0) 4000 (e2_seek e2x_274 60) al_b228_0 [] E_b228_0 h_b228_0 = true := by decide +kernel
set_option maxRecDepth 1000000 in
theorem ci_b228_0 : e2_idl 4 (al_b228_0.set 8 (9, 0, 0)) = true := by decide +kernel
set_option maxRecDepth 1000000 in
theorem cj_b228_0 : e2_idh 4 8 h_b228_0 = true := by decide +kernel
theorem cs_b228 (hen : en_ok) (l : Launch) (hh : e2_hand_b l) : e2_smOk l 65 s_b228 := by
  refine e2_conG (H := 62) (n := 2) (C := evd_274) (S := S_b228) (I := I_b228) (fuel := 4000) hen ei_274 (e2_fa ((cs_b13 hen l).mono (by decide)) (e2_fa (cs_b18 hen l hh) (e2_fa ((cs_b225 hen l).mono (by decide)) (e2_fa ((cs_b226 hen l).mono (by decide)) e2_fz)))) (e2_fa ein_212 (e2_fa ein_215 (e2_fa ein_216 (e2_fa ein_220 e2_fz)))) (by decide) co_b228 fun M d _ hC hcall p e R s m args below meth c Q D cA A ads r0 ha hl0 => ?_
  have L_0 : e2_gdM M p l e R s m args below meth c Q D cA A ads r0 60 al_b228_0 [] E_b228_0 h_b228_0 := by
    refine e2_indL (u := 4) (j := 8) (lo := 2147483648) (hi := 2147483668) (b := 4) (dd := 0) hl0 (by decide) rfl rfl (Or.inr ⟨rfl, rfl⟩) rfl ci_b228_0 cj_b228_0 ?_
    intro r_0 k_0 hk_0 hp_0 hs_0 hn_0
    have hl_0 : r_0.length ≤ 5 := hs_0.len rfl
    have ha_0 := ha.ext hp_0
    exact e2_fromM hen ha_0 hcall (e2_cutA_ok (e2_fa (fun al st E h hc => hn_0 al st E h hc) e2_fz)) (hC []) (X := e2x_274) ex2_274 60 ck_b228_0
  have EN_0 := e2_entL (u := 4) (j := 8) (lo := 2147483648) (hi := 2147483668) hl0 rfl rfl rfl ci_b228_0 cj_b228_0 L_0
  exact e2_from hen ha hcall (e2_cutA_ok (e2_fa (fun al st E h hc => EN_0 al st E h hc) e2_fz)) (hC []) (X := e2x_274) ex2_274 0 ck_b228_e
/-! b229 X10_duel -/
def as_b229 : List ev_V := [(2, 83, 0), (11, 0, 4294967295), (11, 0, 4294967295), (11, 0, 4294967295), (11, 0, 4294967295)]
def E_b229 : e2_E := [(2147483648, 2147583648, 0, 0), (2147483648, 2147483656, 1, 0), (2147483648, 2147483688, 2, 0), (2147483648, 2147483688, 3, 0)]
noncomputable def f_b229 : ev_H := (bn1667 : e2_Q8)
noncomputable def q_b229_0 : ev_H := (bn1667 : e2_Q8)
noncomputable def rs_b229 : e2_Rs := [((11, 0, 4294967295), q_b229_0)]
noncomputable def s_b229 : e2_Sm := (274, as_b229, E_b229, f_b229, rs_b229)
noncomputable def S_b229 : List e2_Sm := [s_b13, s_b20, s_b225, s_b226]
noncomputable def I_b229 : List e2_In := [(212, 3, e2x_212), (215, 2, e2x_215), (216, 1, e2x_216), (220, 2, e2x_220)]
set_option maxRecDepth 1000000 in
theorem co_b229 : e2_okSB E_b229.length as_b229 f_b229 rs_b229 = true := by decide +kernel
def al_b229_0 : List ev_V := [(2, 83, 0), (11, 2147483648, 2147483651), (11, 0, 4294967295), (11, 0, 4294967295), (11, 2147483648, 2147483650), (11, 2147483647, 2147483667), (11, 0, 4294967295), (11, 0, 4294967295), (1, 4, 4294967296), (9, 0, 0)]
def E_b229_0 : e2_E := [(2147483648, 2147583648, 0, 0), (2147483648, 2147483656, 1, 0), (2147483648, 2147483688, 2, 0), (2147483648, 2147483688, 3, 0), (2147483648, 2147483668, 4, 0)]
noncomputable def h_b229_0 : ev_H := (bn1667 : e2_Q8)
noncomputable def cl_b229_e : List (Nat × e2_S) := [(60, e2_cutL (al_b229_0.set 8 (11, 2147483648, 2147483668)) 4 (E_b229_0.take 4) h_b229_0)]
set_option maxRecDepth 1000000 in
theorem ck_b229_e : e2_run (e2_cal S_b229 I_b229 4000 2) (e2_fin rs_b229) e2x_274 (e2_bpL cl_b229_e) (e2_cutA cl_b229_e) 4000 (e2_seek e2x_274 0) (e2_al 10 as_b229) [] E_b229 f_b229 = true := by decide +kernel
noncomputable def cl_b229_0 : List (Nat × e2_S) := [(60, e2_cutL (al_b229_0.set 8 (13, 12, 2147483668)) 4 (E_b229_0.take 4) h_b229_0)]
set_option maxRecDepth 1000000 in
theorem ck_b229_0 : e2_runM (e2_cal S_b229 I_b229 4000 2) (e2_fin rs_b229) e2x_274 (e2_bpL cl_b229_0) (e2_cutA cl_b229_0) 4000 (e2_seek e2x_274 60) al_b229_0 [] E_b229_0 h_b229_0 = true := by decide +kernel
set_option maxRecDepth 1000000 in
theorem ci_b229_0 : e2_idl 4 (al_b229_0.set 8 (9, 0, 0)) = true := by decide +kernel
set_option maxRecDepth 1000000 in
theorem cj_b229_0 : e2_idh 4 8 h_b229_0 = true := by decide +kernel
theorem cs_b229 (hen : en_ok) (l : Launch) : e2_smOk l 10 s_b229 := by
  refine e2_conG (H := 7) (n := 2) (C := evd_274) (S := S_b229) (I := I_b229) (fuel := 4000) hen ei_274 (e2_fa ((cs_b13 hen l).mono (by decide)) (e2_fa ((cs_b20 hen l).mono (by decide)) (e2_fa (cs_b225 hen l) (e2_fa ((cs_b226 hen l).mono (by decide)) e2_fz)))) (e2_fa ein_212 (e2_fa ein_215 (e2_fa ein_216 (e2_fa ein_220 e2_fz)))) (by decide) co_b229 fun M d _ hC hcall p e R s m args below meth c Q D cA A ads r0 ha hl0 => ?_
  have L_0 : e2_gdM M p l e R s m args below meth c Q D cA A ads r0 60 al_b229_0 [] E_b229_0 h_b229_0 := by
    refine e2_indL (u := 4) (j := 8) (lo := 2147483648) (hi := 2147483668) (b := 4) (dd := 0) hl0 (by decide) rfl rfl (Or.inr ⟨rfl, rfl⟩) rfl ci_b229_0 cj_b229_0 ?_
    intro r_0 k_0 hk_0 hp_0 hs_0 hn_0
    have hl_0 : r_0.length ≤ 5 := hs_0.len rfl
    have ha_0 := ha.ext hp_0
    exact e2_fromM hen ha_0 hcall (e2_cutA_ok (e2_fa (fun al st E h hc => hn_0 al st E h hc) e2_fz)) (hC []) (X := e2x_274) ex2_274 60 ck_b229_0
  have EN_0 := e2_entL (u := 4) (j := 8) (lo := 2147483648) (hi := 2147483668) hl0 rfl rfl rfl ci_b229_0 cj_b229_0 L_0
  exact e2_from hen ha hcall (e2_cutA_ok (e2_fa (fun al st E h hc => EN_0 al st E h hc) e2_fz)) (hC []) (X := e2x_274) ex2_274 0 ck_b229_e
/-! b230 X10_duel -/
def as_b230 : List ev_V := [(2, 83, 0), (11, 0, 4294967295), (11, 0, 4294967295), (11, 0, 4294967295), (11, 0, 4294967295)]
def E_b230 : e2_E := [(2147483648, 2147583648, 0, 0), (2147483648, 2147483656, 1, 0), (2147483648, 2147483688, 2, 0), (2147483648, 2147483688, 3, 0)]
noncomputable def f_b230 : ev_H := (bn1670 : e2_Q8)
noncomputable def q_b230_0 : ev_H := (bn1670 : e2_Q8)
noncomputable def rs_b230 : e2_Rs := [((11, 0, 4294967295), q_b230_0)]
noncomputable def s_b230 : e2_Sm := (274, as_b230, E_b230, f_b230, rs_b230)
noncomputable def S_b230 : List e2_Sm := [s_b13, s_b22, s_b225, s_b226]
noncomputable def I_b230 : List e2_In := [(212, 3, e2x_212), (215, 2, e2x_215), (216, 1, e2x_216), (220, 2, e2x_220)]
set_option maxRecDepth 1000000 in
theorem co_b230 : e2_okSB E_b230.length as_b230 f_b230 rs_b230 = true := by decide +kernel
def al_b230_0 : List ev_V := [(2, 83, 0), (11, 2147483648, 2147483651), (11, 0, 4294967295), (11, 0, 4294967295), (11, 2147483648, 2147483650), (11, 2147483647, 2147483667), (11, 0, 4294967295), (11, 0, 4294967295), (1, 4, 4294967296), (9, 0, 0)]
def E_b230_0 : e2_E := [(2147483648, 2147583648, 0, 0), (2147483648, 2147483656, 1, 0), (2147483648, 2147483688, 2, 0), (2147483648, 2147483688, 3, 0), (2147483648, 2147483668, 4, 0)]
noncomputable def h_b230_0 : ev_H := (bn1670 : e2_Q8)
noncomputable def cl_b230_e : List (Nat × e2_S) := [(60, e2_cutL (al_b230_0.set 8 (11, 2147483648, 2147483668)) 4 (E_b230_0.take 4) h_b230_0)]
set_option maxRecDepth 1000000 in
theorem ck_b230_e : e2_run (e2_cal S_b230 I_b230 4000 2) (e2_fin rs_b230) e2x_274 (e2_bpL cl_b230_e) (e2_cutA cl_b230_e) 4000 (e2_seek e2x_274 0) (e2_al 10 as_b230) [] E_b230 f_b230 = true := by decide +kernel
noncomputable def cl_b230_0 : List (Nat × e2_S) := [(60, e2_cutL (al_b230_0.set 8 (13, 12, 2147483668)) 4 (E_b230_0.take 4) h_b230_0)]
set_option maxRecDepth 1000000 in
theorem ck_b230_0 : e2_runM (e2_cal S_b230 I_b230 4000 2) (e2_fin rs_b230) e2x_274 (e2_bpL cl_b230_0) (e2_cutA cl_b230_0) 4000 (e2_seek e2x_274 60) al_b230_0 [] E_b230_0 h_b230_0 = true := by decide +kernel
set_option maxRecDepth 1000000 in
theorem ci_b230_0 : e2_idl 4 (al_b230_0.set 8 (9, 0, 0)) = true := by decide +kernel
set_option maxRecDepth 1000000 in
theorem cj_b230_0 : e2_idh 4 8 h_b230_0 = true := by decide +kernel
theorem cs_b230 (hen : en_ok) (l : Launch) (hh : e2_hand_b l) : e2_smOk l 65 s_b230 := by
  refine e2_conG (H := 62) (n := 2) (C := evd_274) (S := S_b230) (I := I_b230) (fuel := 4000) hen ei_274 (e2_fa ((cs_b13 hen l).mono (by decide)) (e2_fa (cs_b22 hen l hh) (e2_fa ((cs_b225 hen l).mono (by decide)) (e2_fa ((cs_b226 hen l).mono (by decide)) e2_fz)))) (e2_fa ein_212 (e2_fa ein_215 (e2_fa ein_216 (e2_fa ein_220 e2_fz)))) (by decide) co_b230 fun M d _ hC hcall p e R s m args below meth c Q D cA A ads r0 ha hl0 => ?_
  have L_0 : e2_gdM M p l e R s m args below meth c Q D cA A ads r0 60 al_b230_0 [] E_b230_0 h_b230_0 := by
    refine e2_indL (u := 4) (j := 8) (lo := 2147483648) (hi := 2147483668) (b := 4) (dd := 0) hl0 (by decide) rfl rfl (Or.inr ⟨rfl, rfl⟩) rfl ci_b230_0 cj_b230_0 ?_
    intro r_0 k_0 hk_0 hp_0 hs_0 hn_0
    have hl_0 : r_0.length ≤ 5 := hs_0.len rfl
    have ha_0 := ha.ext hp_0
    exact e2_fromM hen ha_0 hcall (e2_cutA_ok (e2_fa (fun al st E h hc => hn_0 al st E h hc) e2_fz)) (hC []) (X := e2x_274) ex2_274 60 ck_b230_0
  have EN_0 := e2_entL (u := 4) (j := 8) (lo := 2147483648) (hi := 2147483668) hl0 rfl rfl rfl ci_b230_0 cj_b230_0 L_0
  exact e2_from hen ha hcall (e2_cutA_ok (e2_fa (fun al st E h hc => EN_0 al st E h hc) e2_fz)) (hC []) (X := e2x_274) ex2_274 0 ck_b230_e
/-! b231 X10_heard -/
def as_b231 : List ev_V := [(2, 83, 0), (11, 0, 4294967295), (11, 0, 4294967295), (11, 0, 4294967295), (11, 2147483648, 2147483649)]
def E_b231 : e2_E := [(2147483648, 2147583648, 0, 0), (2147483648, 2147483656, 1, 0), (2147483648, 2147483688, 2, 0), (2147483648, 2147483688, 3, 0)]
def bc219 : ev_C := (54, [(0, 30, 0), (11, 0, 4294967295)])
def bn1860 : e2_Q1 := (bc0, bc219)
def bn1861 : e2_Q2 := (bn1860, bn1)
def bn1862 : e2_Q3 := (bn1861, bn5)
def bn1863 : e2_Q4 := (bn1862, bn265)
def bn1864 : e2_Q5 := (bn1863, bn433)
def bn1865 : e2_Q6 := (bn1864, bn61)
def bn1866 : e2_Q1 := (bc219, bc3)
def bn1867 : e2_Q2 := (bn119, bn1866)
def bn1868 : e2_Q3 := (bn118, bn1867)
def bn1869 : e2_Q4 := (bn115, bn1868)
def bn1870 : e2_Q5 := (bn272, bn1869)
def bn1871 : e2_Q6 := (bn93, bn1870)
def bn1872 : e2_Q7 := (bn1865, bn1871)
def bn1873 : e2_Q1 := (bc68, bc219)
def bn1874 : e2_Q2 := (bn1873, bn128)
def bn1875 : e2_Q3 := (bn1874, bn132)
def bn1876 : e2_Q4 := (bn1875, bn140)
def bn1877 : e2_Q5 := (bn1876, bn156)
def bn1878 : e2_Q6 := (bn1877, bn188)
def bn1879 : e2_Q2 := (bn246, bn1866)
def bn1880 : e2_Q3 := (bn245, bn1879)
def bn1881 : e2_Q4 := (bn242, bn1880)
def bn1882 : e2_Q5 := (bn235, bn1881)
def bn1883 : e2_Q6 := (bn220, bn1882)
def bn1884 : e2_Q7 := (bn1878, bn1883)
def bn1885 : e2_Q8 := (bn1872, bn1884)
noncomputable def f_b231 : ev_H := (bn1885 : e2_Q8)
noncomputable def q_b231_0 : ev_H := (bn1885 : e2_Q8)
noncomputable def rs_b231 : e2_Rs := [((11, 2147483647, 2147483677), q_b231_0)]
noncomputable def s_b231 : e2_Sm := (278, as_b231, E_b231, f_b231, rs_b231)
noncomputable def S_b231 : List e2_Sm := []
noncomputable def I_b231 : List e2_In := [(212, 3, e2x_212), (217, 1, e2x_217), (275, 1, e2x_275), (276, 2, e2x_276), (277, 3, e2x_277)]
set_option maxRecDepth 1000000 in
theorem ck_b231 : e2_run (e2_cal S_b231 I_b231 4000 3) (e2_fin rs_b231) e2x_278 (fun _ => false) (fun _ _ _ _ _ => false) 4000 (e2_seek e2x_278 0) (e2_al 5 as_b231) [] E_b231 f_b231 = true := by decide +kernel
set_option maxRecDepth 1000000 in
theorem co_b231 : e2_okSB E_b231.length as_b231 f_b231 rs_b231 = true := by decide +kernel
theorem cs_b231 (hen : en_ok) (l : Launch) : e2_smOk l 4 s_b231 := e2_con0 (H := 0) (n := 3) (C := evd_278) (S := S_b231) (I := I_b231) (fuel := 4000) [] hen ei_278 e2_fz (e2_fa ein_212 (e2_fa ein_217 (e2_fa ein_275 (e2_fa ein_276 (e2_fa ein_277 e2_fz))))) (by decide) co_b231 ex2_278 ck_b231
/-! b232 X10_doesFit -/
def as_b232 : List ev_V := [(2, 83, 0), (11, 2147483648, 4294967295), (11, 0, 4294967295)]
def E_b232 : e2_E := [(2147483648, 2147583648, 0, 0), (2147483648, 2147483656, 1, 0), (2147483648, 2147483688, 2, 0), (2147483648, 2147483688, 3, 0)]
def bn1886 : e2_Q5 := (bn1863, bn29)
def bn1887 : e2_Q6 := (bn1886, bn61)
def bn1888 : e2_Q7 := (bn1887, bn1871)
def bn1889 : e2_Q8 := (bn1888, bn1884)
noncomputable def f_b232 : ev_H := (bn1889 : e2_Q8)
noncomputable def q_b232_0 : ev_H := (bn1889 : e2_Q8)
noncomputable def rs_b232 : e2_Rs := [((11, 2147483648, 2147483649), q_b232_0)]
noncomputable def s_b232 : e2_Sm := (281, as_b232, E_b232, f_b232, rs_b232)
noncomputable def S_b232 : List e2_Sm := []
noncomputable def I_b232 : List e2_In := []
set_option maxRecDepth 1000000 in
theorem co_b232 : e2_okSB E_b232.length as_b232 f_b232 rs_b232 = true := by decide +kernel
def al_b232_0 : List ev_V := [(2, 83, 0), (11, 2147483648, 4294967295), (11, 0, 4294967295), (1, 4, 4294967296), (9, 0, 0)]
def E_b232_0 : e2_E := [(2147483648, 2147583648, 0, 0), (2147483648, 2147483656, 1, 0), (2147483648, 2147483688, 2, 0), (2147483648, 2147483688, 3, 0), (2147483648, 2147483678, 4, 0)]
noncomputable def h_b232_0 : ev_H := (bn1889 : e2_Q8)
noncomputable def cl_b232_e : List (Nat × e2_S) := [(2, e2_cutL (al_b232_0.set 3 (11, 2147483648, 2147483678)) 4 (E_b232_0.take 4) h_b232_0)]
set_option maxRecDepth 1000000 in
theorem ck_b232_e : e2_run (e2_cal S_b232 I_b232 4000 0) (e2_fin rs_b232) e2x_281 (e2_bpL cl_b232_e) (e2_cutA cl_b232_e) 4000 (e2_seek e2x_281 0) (e2_al 5 as_b232) [] E_b232 f_b232 = true := by decide +kernel
noncomputable def cl_b232_0 : List (Nat × e2_S) := [(2, e2_cutL (al_b232_0.set 3 (13, 12, 2147483678)) 4 (E_b232_0.take 4) h_b232_0)]
set_option maxRecDepth 1000000 in
theorem ck_b232_0 : e2_runM (e2_cal S_b232 I_b232 4000 0) (e2_fin rs_b232) e2x_281 (e2_bpL cl_b232_0) (e2_cutA cl_b232_0) 4000 (e2_seek e2x_281 2) al_b232_0 [] E_b232_0 h_b232_0 = true := by decide +kernel
set_option maxRecDepth 1000000 in
theorem ci_b232_0 : e2_idl 4 (al_b232_0.set 3 (9, 0, 0)) = true := by decide +kernel
set_option maxRecDepth 1000000 in
theorem cj_b232_0 : e2_idh 4 8 h_b232_0 = true := by decide +kernel
theorem cs_b232 (hen : en_ok) (l : Launch) : e2_smOk l 1 s_b232 := by
  refine e2_conG (H := 0) (n := 0) (C := evd_281) (S := S_b232) (I := I_b232) (fuel := 4000) hen ei_281 e2_fz e2_fz (by decide) co_b232 fun M d _ hC hcall p e R s m args below meth c Q D cA A ads r0 ha hl0 => ?_
  have L_0 : e2_gdM M p l e R s m args below meth c Q D cA A ads r0 2 al_b232_0 [] E_b232_0 h_b232_0 := by
    refine e2_indL (u := 4) (j := 3) (lo := 2147483648) (hi := 2147483678) (b := 4) (dd := 0) hl0 (by decide) rfl rfl (Or.inr ⟨rfl, rfl⟩) rfl ci_b232_0 cj_b232_0 ?_
    intro r_0 k_0 hk_0 hp_0 hs_0 hn_0
    have hl_0 : r_0.length ≤ 5 := hs_0.len rfl
    have ha_0 := ha.ext hp_0
    exact e2_fromM hen ha_0 hcall (e2_cutA_ok (e2_fa (fun al st E h hc => hn_0 al st E h hc) e2_fz)) (hC []) (X := e2x_281) ex2_281 2 ck_b232_0
  have EN_0 := e2_entL (u := 4) (j := 3) (lo := 2147483648) (hi := 2147483678) hl0 rfl rfl rfl ci_b232_0 cj_b232_0 L_0
  exact e2_from hen ha hcall (e2_cutA_ok (e2_fa (fun al st E h hc => EN_0 al st E h hc) e2_fz)) (hC []) (X := e2x_281) ex2_281 0 ck_b232_e
/-! b233 X10_layFit -/
def as_b233 : List ev_V := [(2, 83, 0), (11, 0, 4294967295)]
def E_b233 : e2_E := [(2147483648, 2147583648, 0, 0), (2147483648, 2147483656, 1, 0), (2147483648, 2147483688, 2, 0), (2147483648, 2147483688, 3, 0)]
def bc220 : ev_C := (54, [(0, 16, 0), (11, 0, 4294967295)])
def bn1890 : e2_Q1 := (bc35, bc220)
def bn1891 : e2_Q2 := (bn1890, bn64)
def bn1892 : e2_Q3 := (bn1891, bn68)
def bn1893 : e2_Q4 := (bn1892, bn76)
def bn1894 : e2_Q5 := (bn1893, bn92)
def bn1895 : e2_Q6 := (bn1894, bn1870)
def bn1896 : e2_Q7 := (bn1865, bn1895)
def bn1897 : e2_Q8 := (bn1896, bn1884)
noncomputable def f_b233 : ev_H := (bn1897 : e2_Q8)
noncomputable def q_b233_0 : ev_H := (bn1897 : e2_Q8)
noncomputable def rs_b233 : e2_Rs := [((9, 0, 0), q_b233_0)]
noncomputable def s_b233 : e2_Sm := (282, as_b233, E_b233, f_b233, rs_b233)
noncomputable def S_b233 : List e2_Sm := [s_b232]
noncomputable def I_b233 : List e2_In := [(217, 1, e2x_217), (275, 1, e2x_275)]
set_option maxRecDepth 1000000 in
theorem co_b233 : e2_okSB E_b233.length as_b233 f_b233 rs_b233 = true := by decide +kernel
def al_b233_0 : List ev_V := [(2, 83, 0), (11, 0, 4294967295), (11, 2147483648, 2147483664), (1, 4, 4294967296), (9, 0, 0)]
def E_b233_0 : e2_E := [(2147483648, 2147583648, 0, 0), (2147483648, 2147483656, 1, 0), (2147483648, 2147483688, 2, 0), (2147483648, 2147483688, 3, 0), (2147483648, 2147483664, 4, 0)]
noncomputable def h_b233_0 : ev_H := (bn1897 : e2_Q8)
def al_b233_1 : List ev_V := [(2, 83, 0), (11, 0, 4294967295), (11, 2147483648, 2147483664), (1, 4, 4294967296), (9, 0, 0)]
def E_b233_1 : e2_E := [(2147483648, 2147583648, 0, 0), (2147483648, 2147483656, 1, 0), (2147483648, 2147483688, 2, 0), (2147483648, 2147483688, 3, 0), (2147483648, 4294967295, 4, 0)]
noncomputable def h_b233_1 : ev_H := (bn1897 : e2_Q8)
def al_b233_2 : List ev_V := [(2, 83, 0), (11, 0, 4294967295), (11, 2147483648, 2147483664), (1, 4, 4294967296), (1, 5, 4294967296)]
def E_b233_2 : e2_E := [(2147483648, 2147583648, 0, 0), (2147483648, 2147483656, 1, 0), (2147483648, 2147483688, 2, 0), (2147483648, 2147483688, 3, 0), (2147483648, 4294967294, 4, 0), (2147483648, 2147483664, 5, 0)]
noncomputable def h_b233_2 : ev_H := (bn1897 : e2_Q8)
noncomputable def cl_b233_e : List (Nat × e2_S) := [(17, e2_cutL (al_b233_0.set 3 (11, 2147483648, 2147483664)) 4 (E_b233_0.take 4) h_b233_0)]
set_option maxRecDepth 1000000 in
theorem ck_b233_e : e2_run (e2_cal S_b233 I_b233 4000 2) (e2_fin rs_b233) e2x_282 (e2_bpL cl_b233_e) (e2_cutA cl_b233_e) 4000 (e2_seek e2x_282 0) (e2_al 5 as_b233) [] E_b233 f_b233 = true := by decide +kernel
noncomputable def cl_b233_0 : List (Nat × e2_S) := [(17, e2_cutL (al_b233_0.set 3 (13, 12, 2147483664)) 4 (E_b233_0.take 4) h_b233_0),
  (37, e2_cutL (al_b233_1.set 3 (11, 2147483648, 4294967295)) 4 (E_b233_1.take 4) h_b233_1)]
set_option maxRecDepth 1000000 in
theorem ck_b233_0 : e2_runM (e2_cal S_b233 I_b233 4000 2) (e2_fin rs_b233) e2x_282 (e2_bpL cl_b233_0) (e2_cutA cl_b233_0) 4000 (e2_seek e2x_282 17) al_b233_0 [] E_b233_0 h_b233_0 = true := by decide +kernel
set_option maxRecDepth 1000000 in
theorem ci_b233_0 : e2_idl 4 (al_b233_0.set 3 (9, 0, 0)) = true := by decide +kernel
set_option maxRecDepth 1000000 in
theorem cj_b233_0 : e2_idh 4 8 h_b233_0 = true := by decide +kernel
noncomputable def cl_b233_1 : List (Nat × e2_S) := [(37, e2_cutL (al_b233_1.set 3 (13, 12, 4294967295)) 4 (E_b233_1.take 4) h_b233_1),
  (69, e2_cutL (al_b233_2.set 4 (11, 2147483648, 2147483664)) 5 (E_b233_2.take 5) h_b233_2)]
set_option maxRecDepth 1000000 in
theorem ck_b233_1 : e2_runM (e2_cal S_b233 I_b233 4000 2) (e2_fin rs_b233) e2x_282 (e2_bpL cl_b233_1) (e2_cutA cl_b233_1) 4000 (e2_seek e2x_282 37) al_b233_1 [] E_b233_1 h_b233_1 = true := by decide +kernel
set_option maxRecDepth 1000000 in
theorem ci_b233_1 : e2_idl 4 (al_b233_1.set 3 (9, 0, 0)) = true := by decide +kernel
set_option maxRecDepth 1000000 in
theorem cj_b233_1 : e2_idh 4 8 h_b233_1 = true := by decide +kernel
noncomputable def cl_b233_2 : List (Nat × e2_S) := [(37, e2_cutL (al_b233_1.set 3 (13, 12, 4294967295)) 4 (E_b233_1.take 4) h_b233_1),
  (69, e2_cutL (al_b233_2.set 4 (13, 13, 2147483664)) 5 (E_b233_2.take 5) h_b233_2)]
set_option maxRecDepth 1000000 in
theorem ck_b233_2 : e2_runM (e2_cal S_b233 I_b233 4000 2) (e2_fin rs_b233) e2x_282 (e2_bpL cl_b233_2) (e2_cutA cl_b233_2) 4000 (e2_seek e2x_282 69) al_b233_2 [] E_b233_2 h_b233_2 = true := by decide +kernel
set_option maxRecDepth 1000000 in
theorem ci_b233_2 : e2_idl 5 (al_b233_2.set 4 (9, 0, 0)) = true := by decide +kernel
set_option maxRecDepth 1000000 in
theorem cj_b233_2 : e2_idh 5 8 h_b233_2 = true := by decide +kernel
theorem cs_b233 (hen : en_ok) (l : Launch) : e2_smOk l 4 s_b233 := by
  refine e2_conG (H := 1) (n := 2) (C := evd_282) (S := S_b233) (I := I_b233) (fuel := 4000) hen ei_282 (e2_fa (cs_b232 hen l) e2_fz) (e2_fa ein_217 (e2_fa ein_275 e2_fz)) (by decide) co_b233 fun M d _ hC hcall p e R s m args below meth c Q D cA A ads r0 ha hl0 => ?_
  have L_1 : e2_gdM M p l e R s m args below meth c Q D cA A ads r0 37 al_b233_1 [] E_b233_1 h_b233_1 := by
    refine e2_indL (u := 4) (j := 3) (lo := 2147483648) (hi := 4294967295) (b := 4) (dd := 0) hl0 (by decide) rfl rfl (Or.inr ⟨rfl, rfl⟩) rfl ci_b233_1 cj_b233_1 ?_
    intro r_1 k_1 hk_1 hp_1 hs_1 hn_1
    have hl_1 : r_1.length ≤ 5 := hs_1.len rfl
    have ha_1 := ha.ext hp_1
    have L_2 : e2_gdM M p l e R s m args below meth c Q D cA A ads r_1 69 al_b233_2 [] E_b233_2 h_b233_2 := by
      refine e2_indL (u := 5) (j := 4) (lo := 2147483648) (hi := 2147483664) (b := 5) (dd := 0) hl_1 (by decide) rfl rfl (Or.inr ⟨rfl, rfl⟩) rfl ci_b233_2 cj_b233_2 ?_
      intro r_2 k_2 hk_2 hp_2 hs_2 hn_2
      have hl_2 : r_2.length ≤ 6 := hs_2.len rfl
      have ha_2 := ha_1.ext hp_2
      exact e2_fromM hen ha_2 hcall (e2_cutA_ok (e2_fa (fun al st E h hc => (hn_1 al st E h hc).ext hp_2) (e2_fa (fun al st E h hc => hn_2 al st E h hc) e2_fz))) (hC []) (X := e2x_282) ex2_282 69 ck_b233_2
    have EN_2 := e2_entL (u := 5) (j := 4) (lo := 2147483648) (hi := 2147483664) hl_1 rfl rfl rfl ci_b233_2 cj_b233_2 L_2
    exact e2_fromM hen ha_1 hcall (e2_cutA_ok (e2_fa (fun al st E h hc => hn_1 al st E h hc) (e2_fa (fun al st E h hc => EN_2 al st E h hc) e2_fz))) (hC []) (X := e2x_282) ex2_282 37 ck_b233_1
  have EN_1 := e2_entL (u := 4) (j := 3) (lo := 2147483648) (hi := 4294967295) hl0 rfl rfl rfl ci_b233_1 cj_b233_1 L_1
  have L_0 : e2_gdM M p l e R s m args below meth c Q D cA A ads r0 17 al_b233_0 [] E_b233_0 h_b233_0 := by
    refine e2_indL (u := 4) (j := 3) (lo := 2147483648) (hi := 2147483664) (b := 4) (dd := 0) hl0 (by decide) rfl rfl (Or.inr ⟨rfl, rfl⟩) rfl ci_b233_0 cj_b233_0 ?_
    intro r_0 k_0 hk_0 hp_0 hs_0 hn_0
    have hl_0 : r_0.length ≤ 5 := hs_0.len rfl
    have ha_0 := ha.ext hp_0
    exact e2_fromM hen ha_0 hcall (e2_cutA_ok (e2_fa (fun al st E h hc => hn_0 al st E h hc) (e2_fa (fun al st E h hc => (EN_1 al st E h hc).ext hp_0) e2_fz))) (hC []) (X := e2x_282) ex2_282 17 ck_b233_0
  have EN_0 := e2_entL (u := 4) (j := 3) (lo := 2147483648) (hi := 2147483664) hl0 rfl rfl rfl ci_b233_0 cj_b233_0 L_0
  exact e2_from hen ha hcall (e2_cutA_ok (e2_fa (fun al st E h hc => EN_0 al st E h hc) e2_fz)) (hC []) (X := e2x_282) ex2_282 0 ck_b233_e
/-! b234 X10_fit -/
def as_b234 : List ev_V := [(2, 83, 0), (11, 0, 4294967295)]
def E_b234 : e2_E := [(2147483648, 2147583648, 0, 0), (2147483648, 2147483656, 1, 0), (2147483648, 2147483688, 2, 0), (2147483648, 2147483688, 3, 0)]
noncomputable def f_b234 : ev_H := (bn1897 : e2_Q8)
noncomputable def q_b234_0 : ev_H := (bn1897 : e2_Q8)
noncomputable def rs_b234 : e2_Rs := [((11, 0, 4294967295), q_b234_0)]
noncomputable def s_b234 : e2_Sm := (283, as_b234, E_b234, f_b234, rs_b234)
noncomputable def S_b234 : List e2_Sm := [s_b233]
noncomputable def I_b234 : List e2_In := []
set_option maxRecDepth 1000000 in
theorem ck_b234 : e2_run (e2_cal S_b234 I_b234 4000 0) (e2_fin rs_b234) e2x_283 (fun _ => false) (fun _ _ _ _ _ => false) 4000 (e2_seek e2x_283 0) (e2_al 2 as_b234) [] E_b234 f_b234 = true := by decide +kernel
set_option maxRecDepth 1000000 in
theorem co_b234 : e2_okSB E_b234.length as_b234 f_b234 rs_b234 = true := by decide +kernel
theorem cs_b234 (hen : en_ok) (l : Launch) : e2_smOk l 5 s_b234 := e2_con0 (H := 4) (n := 0) (C := evd_283) (S := S_b234) (I := I_b234) (fuel := 4000) [] hen ei_283 (e2_fa (cs_b233 hen l) e2_fz) e2_fz (by decide) co_b234 ex2_283 ck_b234
