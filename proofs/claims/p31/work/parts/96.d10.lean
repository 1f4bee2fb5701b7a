/-! CONTRACTS d, printed by a program -/
/-! d217 X10_watch -/
def as_d217 : List ev_V := [(2, 83, 0)]
def E_d217 : e2_E := [(2147483648, 2147583648, 0, 0), (2147483648, 2147483656, 1, 0), (2147483648, 2147483688, 2, 0), (2147483648, 2147483688, 3, 0)]
noncomputable def f_d217 : ev_H := (dn1582 : e2_Q8)
noncomputable def q_d217_0 : ev_H := (dn1582 : e2_Q8)
noncomputable def rs_d217 : e2_Rs := [((11, 0, 4294967295), q_d217_0)]
noncomputable def s_d217 : e2_Sm := (270, as_d217, E_d217, f_d217, rs_d217)
noncomputable def S_d217 : List e2_Sm := [s_d13, s_d15, s_d16, s_d93, s_d133]
noncomputable def I_d217 : List e2_In := [(215, 2, e2x_215), (216, 1, e2x_216)]
set_option maxRecDepth 1000000 in
theorem co_d217 : e2_okSB E_d217.length as_d217 f_d217 rs_d217 = true := by decide +kernel
def al_d217_0 : List ev_V := [(2, 83, 0), (11, 0, 4294967295), (1, 4, 4294967296)]
def E_d217_0 : e2_E := [(2147483648, 2147583648, 0, 0), (2147483648, 2147483656, 1, 0), (2147483648, 2147483688, 2, 0), (2147483648, 2147483688, 3, 0), (2147483648, 2147483668, 4, 0)]
noncomputable def h_d217_0 : ev_H := (dn1582 : e2_Q8)
noncomputable def cl_d217_e : List (Nat × e2_S) := [(8, e2_cutL (al_d217_0.set 2 (11, 2147483648, 2147483668)) 4 (E_d217_0.take 4) h_d217_0)]
set_option maxRecDepth 1000000 in
theorem ck_d217_e : e2_run (e2_cal S_d217 I_d217 4000 1) (e2_fin rs_d217) e2x_270 (e2_bpL cl_d217_e) (e2_cutA cl_d217_e) 4000 (e2_seek e2x_270 0) (e2_al 3 as_d217) [] E_d217 f_d217 = true := by decide +kernel
noncomputable def cl_d217_0 : List (Nat × e2_S) := [(8, e2_cutL (al_d217_0.set 2 (13, 12, 2147483668)) 4 (E_d217_0.take 4) h_d217_0)]
set_option maxRecDepth 1000000 in
theorem ck_d217_0 : e2_runM (e2_cal S_d217 I_d217 4000 1) (e2_fin rs_d217) e2x_270 (e2_bpL cl_d217_0) (e2_cutA cl_d217_0) 4000 (e2_seek e2x_270 8) al_d217_0 [] E_d217_0 h_d217_0 = true := by decide +kernel
set_option maxRecDepth 1000000 in
theorem ci_d217_0 : e2_idl 4 (al_d217_0.set 2 (9, 0, 0)) = true := by decide +kernel
set_option maxRecDepth 1000000 in
theorem cj_d217_0 : e2_idh 4 8 h_d217_0 = true := by decide +kernel
theorem cs_d217 (hen : en_ok) (l : Launch) : e2_smOk l 7 s_d217 := by
  refine e2_conG (H := 5) (n := 1) (C := evd_270) (S := S_d217) (I := I_d217) (fuel := 4000) hen ei_270 (e2_fa ((cs_d13 hen l).mono (by decide)) (e2_fa (cs_d15 hen l) (e2_fa ((cs_d16 hen l).mono (by decide)) (e2_fa (cs_d93 hen l) (e2_fa ((cs_d133 hen l).mono (by decide)) e2_fz))))) (e2_fa ein_215 (e2_fa ein_216 e2_fz)) (by decide) co_d217 fun M d _ hC hcall p e R s m args below meth c Q D cA A ads r0 ha hl0 => ?_
  have L_0 : e2_gdM M p l e R s m args below meth c Q D cA A ads r0 8 al_d217_0 [] E_d217_0 h_d217_0 := by
    refine e2_indL (u := 4) (j := 2) (lo := 2147483648) (hi := 2147483668) (b := 4) (dd := 0) hl0 (by decide) rfl rfl (Or.inr ⟨rfl, rfl⟩) rfl ci_d217_0 cj_d217_0 ?_
    intro r_0 k_0 hk_0 hp_0 hs_0 hn_0
    have hl_0 : r_0.length ≤ 5 := hs_0.len rfl
    have ha_0 := ha.ext hp_0
    exact e2_fromM hen ha_0 hcall (e2_cutA_ok (e2_fa (fun al st E h hc => hn_0 al st E h hc) e2_fz)) (hC []) (X := e2x_270) ex2_270 8 ck_d217_0
  have EN_0 := e2_entL (u := 4) (j := 2) (lo := 2147483648) (hi := 2147483668) hl0 rfl rfl rfl ci_d217_0 cj_d217_0 L_0
  exact e2_from hen ha hcall (e2_cutA_ok (e2_fa (fun al st E h hc => EN_0 al st E h hc) e2_fz)) (hC []) (X := e2x_270) ex2_270 0 ck_d217_e
/-! d218 X10_watch -/
def as_d218 : List ev_V := [(2, 83, 0)]
def E_d218 : e2_E := [(2147483648, 2147583648, 0, 0), (2147483648, 2147483656, 1, 0), (2147483648, 2147483688, 2, 0), (2147483648, 2147483688, 3, 0)]
noncomputable def f_d218 : ev_H := (dn1586 : e2_Q8)
noncomputable def q_d218_0 : ev_H := (dn1586 : e2_Q8)
noncomputable def rs_d218 : e2_Rs := [((11, 0, 4294967295), q_d218_0)]
noncomputable def s_d218 : e2_Sm := (270, as_d218, E_d218, f_d218, rs_d218)
noncomputable def S_d218 : List e2_Sm := [s_d13, s_d15, s_d18, s_d93, s_d133]
noncomputable def I_d218 : List e2_In := [(215, 2, e2x_215), (216, 1, e2x_216)]
set_option maxRecDepth 1000000 in
theorem co_d218 : e2_okSB E_d218.length as_d218 f_d218 rs_d218 = true := by decide +kernel
def al_d218_0 : List ev_V := [(2, 83, 0), (11, 0, 4294967295), (1, 4, 4294967296)]
def E_d218_0 : e2_E := [(2147483648, 2147583648, 0, 0), (2147483648, 2147483656, 1, 0), (2147483648, 2147483688, 2, 0), (2147483648, 2147483688, 3, 0), (2147483648, 2147483668, 4, 0)]
noncomputable def h_d218_0 : ev_H := (dn1586 : e2_Q8)
noncomputable def cl_d218_e : List (Nat × e2_S) := [(8, e2_cutL (al_d218_0.set 2 (11, 2147483648, 2147483668)) 4 (E_d218_0.take 4) h_d218_0)]
set_option maxRecDepth 1000000 in
theorem ck_d218_e : e2_run (e2_cal S_d218 I_d218 4000 1) (e2_fin rs_d218) e2x_270 (e2_bpL cl_d218_e) (e2_cutA cl_d218_e) 4000 (e2_seek e2x_270 0) (e2_al 3 as_d218) [] E_d218 f_d218 = true := by decide +kernel
noncomputable def cl_d218_0 : List (Nat × e2_S) := [(8, e2_cutL (al_d218_0.set 2 (13, 12, 2147483668)) 4 (E_d218_0.take 4) h_d218_0)]
set_option maxRecDepth 1000000 in
theorem ck_d218_0 : e2_runM (e2_cal S_d218 I_d218 4000 1) (e2_fin rs_d218) e2x_270 (e2_bpL cl_d218_0) (e2_cutA cl_d218_0) 4000 (e2_seek e2x_270 8) al_d218_0 [] E_d218_0 h_d218_0 = true := by decide +kernel
set_option maxRecDepth 1000000 in
theorem ci_d218_0 : e2_idl 4 (al_d218_0.set 2 (9, 0, 0)) = true := by decide +kernel
set_option maxRecDepth 1000000 in
theorem cj_d218_0 : e2_idh 4 8 h_d218_0 = true := by decide +kernel
theorem cs_d218 (hen : en_ok) (l : Launch) (hh : e2_hand_d l) : e2_smOk l 64 s_d218 := by
  refine e2_conG (H := 62) (n := 1) (C := evd_270) (S := S_d218) (I := I_d218) (fuel := 4000) hen ei_270 (e2_fa ((cs_d13 hen l).mono (by decide)) (e2_fa ((cs_d15 hen l).mono (by decide)) (e2_fa (cs_d18 hen l hh) (e2_fa ((cs_d93 hen l).mono (by decide)) (e2_fa ((cs_d133 hen l).mono (by decide)) e2_fz))))) (e2_fa ein_215 (e2_fa ein_216 e2_fz)) (by decide) co_d218 fun M d _ hC hcall p e R s m args below meth c Q D cA A ads r0 ha hl0 => ?_
  have L_0 : e2_gdM M p l e R s m args below meth c Q D cA A ads r0 8 al_d218_0 [] E_d218_0 h_d218_0 := by
    refine e2_indL (u := 4) (j := 2) (lo := 2147483648) (hi := 2147483668) (b := 4) (dd := 0) hl0 (by decide) rfl rfl (Or.inr ⟨rfl, rfl⟩) rfl ci_d218_0 cj_d218_0 ?_
    intro r_0 k_0 hk_0 hp_0 hs_0 hn_0
    have hl_0 : r_0.length ≤ 5 := hs_0.len rfl
    have ha_0 := ha.ext hp_0
    exact e2_fromM hen ha_0 hcall (e2_cutA_ok (e2_fa (fun al st E h hc => hn_0 al st E h hc) e2_fz)) (hC []) (X := e2x_270) ex2_270 8 ck_d218_0
  have EN_0 := e2_entL (u := 4) (j := 2) (lo := 2147483648) (hi := 2147483668) hl0 rfl rfl rfl ci_d218_0 cj_d218_0 L_0
  exact e2_from hen ha hcall (e2_cutA_ok (e2_fa (fun al st E h hc => EN_0 al st E h hc) e2_fz)) (hC []) (X := e2x_270) ex2_270 0 ck_d218_e
/-! d219 X10_watch -/
def as_d219 : List ev_V := [(2, 83, 0)]
def E_d219 : e2_E := [(2147483648, 2147583648, 0, 0), (2147483648, 2147483656, 1, 0), (2147483648, 2147483688, 2, 0), (2147483648, 2147483688, 3, 0)]
noncomputable def f_d219 : ev_H := (dn1587 : e2_Q8)
noncomputable def q_d219_0 : ev_H := (dn1587 : e2_Q8)
noncomputable def rs_d219 : e2_Rs := [((11, 0, 4294967295), q_d219_0)]
noncomputable def s_d219 : e2_Sm := (270, as_d219, E_d219, f_d219, rs_d219)
noncomputable def S_d219 : List e2_Sm := [s_d13, s_d15, s_d20, s_d93, s_d133]
noncomputable def I_d219 : List e2_In := [(215, 2, e2x_215), (216, 1, e2x_216)]
set_option maxRecDepth 1000000 in
theorem co_d219 : e2_okSB E_d219.length as_d219 f_d219 rs_d219 = true := by decide +kernel
def al_d219_0 : List ev_V := [(2, 83, 0), (11, 0, 4294967295), (1, 4, 4294967296)]
def E_d219_0 : e2_E := [(2147483648, 2147583648, 0, 0), (2147483648, 2147483656, 1, 0), (2147483648, 2147483688, 2, 0), (2147483648, 2147483688, 3, 0), (2147483648, 2147483668, 4, 0)]
noncomputable def h_d219_0 : ev_H := (dn1587 : e2_Q8)
noncomputable def cl_d219_e : List (Nat × e2_S) := [(8, e2_cutL (al_d219_0.set 2 (11, 2147483648, 2147483668)) 4 (E_d219_0.take 4) h_d219_0)]
set_option maxRecDepth 1000000 in
theorem ck_d219_e : e2_run (e2_cal S_d219 I_d219 4000 1) (e2_fin rs_d219) e2x_270 (e2_bpL cl_d219_e) (e2_cutA cl_d219_e) 4000 (e2_seek e2x_270 0) (e2_al 3 as_d219) [] E_d219 f_d219 = true := by decide +kernel
noncomputable def cl_d219_0 : List (Nat × e2_S) := [(8, e2_cutL (al_d219_0.set 2 (13, 12, 2147483668)) 4 (E_d219_0.take 4) h_d219_0)]
set_option maxRecDepth 1000000 in
theorem ck_d219_0 : e2_runM (e2_cal S_d219 I_d219 4000 1) (e2_fin rs_d219) e2x_270 (e2_bpL cl_d219_0) (e2_cutA cl_d219_0) 4000 (e2_seek e2x_270 8) al_d219_0 [] E_d219_0 h_d219_0 = true := by decide +kernel
set_option maxRecDepth 1000000 in
theorem ci_d219_0 : e2_idl 4 (al_d219_0.set 2 (9, 0, 0)) = true := by decide +kernel
set_option maxRecDepth 1000000 in
theorem cj_d219_0 : e2_idh 4 8 h_d219_0 = true := by decide +kernel
theorem cs_d219 (hen : en_ok) (l : Launch) : e2_smOk l 7 s_d219 := by
  refine e2_conG (H := 5) (n := 1) (C := evd_270) (S := S_d219) (I := I_d219) (fuel := 4000) hen ei_270 (e2_fa ((cs_d13 hen l).mono (by decide)) (e2_fa (cs_d15 hen l) (e2_fa ((cs_d20 hen l).mono (by decide)) (e2_fa (cs_d93 hen l) (e2_fa ((cs_d133 hen l).mono (by decide)) e2_fz))))) (e2_fa ein_215 (e2_fa ein_216 e2_fz)) (by decide) co_d219 fun M d _ hC hcall p e R s m args below meth c Q D cA A ads r0 ha hl0 => ?_
  have L_0 : e2_gdM M p l e R s m args below meth c Q D cA A ads r0 8 al_d219_0 [] E_d219_0 h_d219_0 := by
    refine e2_indL (u := 4) (j := 2) (lo := 2147483648) (hi := 2147483668) (b := 4) (dd := 0) hl0 (by decide) rfl rfl (Or.inr ⟨rfl, rfl⟩) rfl ci_d219_0 cj_d219_0 ?_
    intro r_0 k_0 hk_0 hp_0 hs_0 hn_0
    have hl_0 : r_0.length ≤ 5 := hs_0.len rfl
    have ha_0 := ha.ext hp_0
    exact e2_fromM hen ha_0 hcall (e2_cutA_ok (e2_fa (fun al st E h hc => hn_0 al st E h hc) e2_fz)) (hC []) (X := e2x_270) ex2_270 8 ck_d219_0
  have EN_0 := e2_entL (u := 4) (j := 2) (lo := 2147483648) (hi := 2147483668) hl0 rfl rfl rfl ci_d219_0 cj_d219_0 L_0
  exact e2_from hen ha hcall (e2_cutA_ok (e2_fa (fun al st E h hc => EN_0 al st E h hc) e2_fz)) (hC []) (X := e2x_270) ex2_270 0 ck_d219_e
/-! d220 X10_watch -/
def as_d220 : List ev_V := [(2, 83, 0)]
def E_d220 : e2_E := [(2147483648, 2147583648, 0, 0), (2147483648, 2147483656, 1, 0), (2147483648, 2147483688, 2, 0), (2147483648, 2147483688, 3, 0)]
noncomputable def f_d220 : ev_H := (dn1591 : e2_Q8)
noncomputable def q_d220_0 : ev_H := (dn1591 : e2_Q8)
noncomputable def rs_d220 : e2_Rs := [((11, 0, 4294967295), q_d220_0)]
noncomputable def s_d220 : e2_Sm := (270, as_d220, E_d220, f_d220, rs_d220)
noncomputable def S_d220 : List e2_Sm := [s_d13, s_d15, s_d22, s_d93, s_d133]
noncomputable def I_d220 : List e2_In := [(215, 2, e2x_215), (216, 1, e2x_216)]
set_option maxRecDepth 1000000 in
theorem co_d220 : e2_okSB E_d220.length as_d220 f_d220 rs_d220 = true := by decide +kernel
def al_d220_0 : List ev_V := [(2, 83, 0), (11, 0, 4294967295), (1, 4, 4294967296)]
def E_d220_0 : e2_E := [(2147483648, 2147583648, 0, 0), (2147483648, 2147483656, 1, 0), (2147483648, 2147483688, 2, 0), (2147483648, 2147483688, 3, 0), (2147483648, 2147483668, 4, 0)]
noncomputable def h_d220_0 : ev_H := (dn1591 : e2_Q8)
noncomputable def cl_d220_e : List (Nat × e2_S) := [(8, e2_cutL (al_d220_0.set 2 (11, 2147483648, 2147483668)) 4 (E_d220_0.take 4) h_d220_0)]
set_option maxRecDepth 1000000 in
theorem ck_d220_e : e2_run (e2_cal S_d220 I_d220 4000 1) (e2_fin rs_d220) e2x_270 (e2_bpL cl_d220_e) (e2_cutA cl_d220_e) 4000 (e2_seek e2x_270 0) (e2_al 3 as_d220) [] E_d220 f_d220 = true := by decide +kernel
noncomputable def cl_d220_0 : List (Nat × e2_S) := [(8, e2_cutL (al_d220_0.set 2 (13, 12, 2147483668)) 4 (E_d220_0.take 4) h_d220_0)]
set_option maxRecDepth 1000000 in
theorem ck_d220_0 : e2_runM (e2_cal S_d220 I_d220 4000 1) (e2_fin rs_d220) e2x_270 (e2_bpL cl_d220_0) (e2_cutA cl_d220_0) 4000 (e2_seek e2x_270 8) al_d220_0 [] E_d220_0 h_d220_0 = true := by decide +kernel
set_option maxRecDepth 1000000 in
theorem ci_d220_0 : e2_idl 4 (al_d220_0.set 2 (9, 0, 0)) = true := by decide +kernel
set_option maxRecDepth 1000000 in
theorem cj_d220_0 : e2_idh 4 8 h_d220_0 = true := by decide +kernel
theorem cs_d220 (hen : en_ok) (l : Launch) (hh : e2_hand_d l) : e2_smOk l 64 s_d220 := by
  refine e2_conG (H := 62) (n := 1) (C := evd_270) (S := S_d220) (I := I_d220) (fuel := 4000) hen ei_270 (e2_fa ((cs_d13 hen l).mono (by decide)) (e2_fa ((cs_d15 hen l).mono (by decide)) (e2_fa (cs_d22 hen l hh) (e2_fa ((cs_d93 hen l).mono (by decide)) (e2_fa ((cs_d133 hen l).mono (by decide)) e2_fz))))) (e2_fa ein_215 (e2_fa ein_216 e2_fz)) (by decide) co_d220 fun M d _ hC hcall p e R s m args below meth c Q D cA A ads r0 ha hl0 => ?_
  have L_0 : e2_gdM M p l e R s m args below meth c Q D cA A ads r0 8 al_d220_0 [] E_d220_0 h_d220_0 := by
    refine e2_indL (u := 4) (j := 2) (lo := 2147483648) (hi := 2147483668) (b := 4) (dd := 0) hl0 (by decide) rfl rfl (Or.inr ⟨rfl, rfl⟩) rfl ci_d220_0 cj_d220_0 ?_
    intro r_0 k_0 hk_0 hp_0 hs_0 hn_0
    have hl_0 : r_0.length ≤ 5 := hs_0.len rfl
    have ha_0 := ha.ext hp_0
    exact e2_fromM hen ha_0 hcall (e2_cutA_ok (e2_fa (fun al st E h hc => hn_0 al st E h hc) e2_fz)) (hC []) (X := e2x_270) ex2_270 8 ck_d220_0
  have EN_0 := e2_entL (u := 4) (j := 2) (lo := 2147483648) (hi := 2147483668) hl0 rfl rfl rfl ci_d220_0 cj_d220_0 L_0
  exact e2_from hen ha hcall (e2_cutA_ok (e2_fa (fun al st E h hc => EN_0 al st E h hc) e2_fz)) (hC []) (X := e2x_270) ex2_270 0 ck_d220_e
/-! d221 X10_cows -/
def as_d221 : List ev_V := [(2, 83, 0), (11, 0, 4294967295), (11, 0, 4294967295)]
def E_d221 : e2_E := [(2147483648, 2147583648, 0, 0), (2147483648, 2147483656, 1, 0), (2147483648, 2147483688, 2, 0), (2147483648, 2147483688, 3, 0)]
noncomputable def f_d221 : ev_H := (dn1662 : e2_Q8)
noncomputable def q_d221_0 : ev_H := (dn1662 : e2_Q8)
noncomputable def rs_d221 : e2_Rs := [((11, 0, 4294967295), q_d221_0)]
noncomputable def s_d221 : e2_Sm := (271, as_d221, E_d221, f_d221, rs_d221)
noncomputable def S_d221 : List e2_Sm := [s_d2, s_d13, s_d15, s_d93, s_d124, s_d132]
noncomputable def I_d221 : List e2_In := [(212, 3, e2x_212), (215, 2, e2x_215), (216, 1, e2x_216), (220, 2, e2x_220)]
set_option maxRecDepth 1000000 in
theorem co_d221 : e2_okSB E_d221.length as_d221 f_d221 rs_d221 = true := by decide +kernel
def al_d221_0 : List ev_V := [(2, 83, 0), (11, 2147483648, 2147483651), (11, 2147483648, 2147483649), (11, 0, 4294967295), (11, 0, 4294967295), (1, 4, 4294967296)]
def E_d221_0 : e2_E := [(2147483648, 2147583648, 0, 0), (2147483648, 2147483656, 1, 0), (2147483648, 2147483688, 2, 0), (2147483648, 2147483688, 3, 0), (2147483648, 2147483668, 4, 0)]
noncomputable def h_d221_0 : ev_H := (dn1662 : e2_Q8)
noncomputable def cl_d221_e : List (Nat × e2_S) := [(36, e2_cutL (al_d221_0.set 5 (11, 2147483648, 2147483668)) 4 (E_d221_0.take 4) h_d221_0)]
set_option maxRecDepth 1000000 in
theorem ck_d221_e : e2_run (e2_cal S_d221 I_d221 4000 2) (e2_fin rs_d221) e2x_271 (e2_bpL cl_d221_e) (e2_cutA cl_d221_e) 4000 (e2_seek e2x_271 0) (e2_al 6 as_d221) [] E_d221 f_d221 = true := by decide +kernel
noncomputable def cl_d221_0 : List (Nat × e2_S) := [(36, e2_cutL (al_d221_0.set 5 (13, 12, 2147483668)) 4 (E_d221_0.take 4) h_d221_0)]
set_option maxRecDepth 1000000 in
theorem ck_d221_0 : e2_runM (e2_cal S_d221 I_d221 4000 2) (e2_fin rs_d221) e2x_271 (e2_bpL cl_d221_0) (e2_cutA cl_d221_0) 4000 (e2_seek e2x_271 36) al_d221_0 [] E_d221_0 h_d221_0 = true := by decide +kernel
set_option maxRecDepth 1000000 in
theorem ci_d221_0 : e2_idl 4 (al_d221_0.set 5 (9, 0, 0)) = true := by decide +kernel
set_option maxRecDepth 1000000 in
theorem cj_d221_0 : e2_idh 4 8 h_d221_0 = true := by decide +kernel
theorem cs_d221 (hen : en_ok) (l : Launch) (hh : e2_hand_d l) : e2_smOk l 63 s_d221 := by
  refine e2_conG (H := 60) (n := 2) (C := evd_271) (S := S_d221) (I := I_d221) (fuel := 4000) hen ei_271 (e2_fa (hh _ hm_d2) (e2_fa ((cs_d13 hen l).mono (by decide)) (e2_fa ((cs_d15 hen l).mono (by decide)) (e2_fa ((cs_d93 hen l).mono (by decide)) (e2_fa ((cs_d124 hen l).mono (by decide)) (e2_fa ((cs_d132 hen l).mono (by decide)) e2_fz)))))) (e2_fa ein_212 (e2_fa ein_215 (e2_fa ein_216 (e2_fa ein_220 e2_fz)))) (by decide) co_d221 fun M d _ hC hcall p e R s m args below meth c Q D cA A ads r0 ha hl0 => ?_
  have L_0 : e2_gdM M p l e R s m args below meth c Q D cA A ads r0 36 al_d221_0 [] E_d221_0 h_d221_0 := by
    refine e2_indL (u := 4) (j := 5) (lo := 2147483648) (hi := 2147483668) (b := 4) (dd := 0) hl0 (by decide) rfl rfl (Or.inr ⟨rfl, rfl⟩) rfl ci_d221_0 cj_d221_0 ?_
    intro r_0 k_0 hk_0 hp_0 hs_0 hn_0
    have hl_0 : r_0.length ≤ 5 := hs_0.len rfl
    have ha_0 := ha.ext hp_0
    exact e2_fromM hen ha_0 hcall (e2_cutA_ok (e2_fa (fun al st E h hc => hn_0 al st E h hc) e2_fz)) (hC []) (X := e2x_271) ex2_271 36 ck_d221_0
  have EN_0 := e2_entL (u := 4) (j := 5) (lo := 2147483648) (hi := 2147483668) hl0 rfl rfl rfl ci_d221_0 cj_d221_0 L_0
  exact e2_from hen ha hcall (e2_cutA_ok (e2_fa (fun al st E h hc => EN_0 al st E h hc) e2_fz)) (hC []) (X := e2x_271) ex2_271 0 ck_d221_e
/-! d222 X10_cows -/
def as_d222 : List ev_V := [(2, 83, 0), (11, 0, 4294967295), (11, 0, 4294967295)]
def E_d222 : e2_E := [(2147483648, 2147583648, 0, 0), (2147483648, 2147483656, 1, 0), (2147483648, 2147483688, 2, 0), (2147483648, 2147483688, 3, 0)]
noncomputable def f_d222 : ev_H := (dn1666 : e2_Q8)
noncomputable def q_d222_0 : ev_H := (dn1666 : e2_Q8)
noncomputable def rs_d222 : e2_Rs := [((11, 0, 4294967295), q_d222_0)]
noncomputable def s_d222 : e2_Sm := (271, as_d222, E_d222, f_d222, rs_d222)
noncomputable def S_d222 : List e2_Sm := [s_d2, s_d13, s_d15, s_d93, s_d126, s_d132]
noncomputable def I_d222 : List e2_In := [(212, 3, e2x_212), (215, 2, e2x_215), (216, 1, e2x_216), (220, 2, e2x_220)]
set_option maxRecDepth 1000000 in
theorem co_d222 : e2_okSB E_d222.length as_d222 f_d222 rs_d222 = true := by decide +kernel
def al_d222_0 : List ev_V := [(2, 83, 0), (11, 2147483648, 2147483651), (11, 2147483648, 2147483649), (11, 0, 4294967295), (11, 0, 4294967295), (1, 4, 4294967296)]
def E_d222_0 : e2_E := [(2147483648, 2147583648, 0, 0), (2147483648, 2147483656, 1, 0), (2147483648, 2147483688, 2, 0), (2147483648, 2147483688, 3, 0), (2147483648, 2147483668, 4, 0)]
noncomputable def h_d222_0 : ev_H := (dn1666 : e2_Q8)
noncomputable def cl_d222_e : List (Nat × e2_S) := [(36, e2_cutL (al_d222_0.set 5 (11, 2147483648, 2147483668)) 4 (E_d222_0.take 4) h_d222_0)]
set_option maxRecDepth 1000000 in
theorem ck_d222_e : e2_run (e2_cal S_d222 I_d222 4000 2) (e2_fin rs_d222) e2x_271 (e2_bpL cl_d222_e) (e2_cutA cl_d222_e) 4000 (e2_seek e2x_271 0) (e2_al 6 as_d222) [] E_d222 f_d222 = true := by decide +kernel
noncomputable def cl_d222_0 : List (Nat × e2_S) := [(36, e2_cutL (al_d222_0.set 5 (13, 12, 2147483668)) 4 (E_d222_0.take 4) h_d222_0)]
set_option maxRecDepth 1000000 in
theorem ck_d222_0 : e2_runM (e2_cal S_d222 I_d222 4000 2) (e2_fin rs_d222) e2x_271 (e2_bpL cl_d222_0) (e2_cutA cl_d222_0) 4000 (e2_seek e2x_271 36) al_d222_0 [] E_d222_0 h_d222_0 = true := by decide +kernel
set_option maxRecDepth 1000000 in
theorem ci_d222_0 : e2_idl 4 (al_d222_0.set 5 (9, 0, 0)) = true := by decide +kernel
set_option maxRecDepth 1000000 in
theorem cj_d222_0 : e2_idh 4 8 h_d222_0 = true := by decide +kernel
theorem cs_d222 (hen : en_ok) (l : Launch) (hh : e2_hand_d l) : e2_smOk l 66 s_d222 := by
  refine e2_conG (H := 63) (n := 2) (C := evd_271) (S := S_d222) (I := I_d222) (fuel := 4000) hen ei_271 (e2_fa ((hh _ hm_d2).mono (by decide)) (e2_fa ((cs_d13 hen l).mono (by decide)) (e2_fa ((cs_d15 hen l).mono (by decide)) (e2_fa ((cs_d93 hen l).mono (by decide)) (e2_fa (cs_d126 hen l hh) (e2_fa ((cs_d132 hen l).mono (by decide)) e2_fz)))))) (e2_fa ein_212 (e2_fa ein_215 (e2_fa ein_216 (e2_fa ein_220 e2_fz)))) (by decide) co_d222 fun M d _ hC hcall p e R s m args below meth c Q D cA A ads r0 ha hl0 => ?_
  have L_0 : e2_gdM M p l e R s m args below meth c Q D cA A ads r0 36 al_d222_0 [] E_d222_0 h_d222_0 := by
    refine e2_indL (u := 4) (j := 5) (lo := 2147483648) (hi := 2147483668) (b := 4) (dd := 0) hl0 (by decide) rfl rfl (Or.inr ⟨rfl, rfl⟩) rfl ci_d222_0 cj_d222_0 ?_
    intro r_0 k_0 hk_0 hp_0 hs_0 hn_0
    have hl_0 : r_0.length ≤ 5 := hs_0.len rfl
    have ha_0 := ha.ext hp_0
    exact e2_fromM hen ha_0 hcall (e2_cutA_ok (e2_fa (fun al st E h hc => hn_0 al st E h hc) e2_fz)) (hC []) (X := e2x_271) ex2_271 36 ck_d222_0
  have EN_0 := e2_entL (u := 4) (j := 5) (lo := 2147483648) (hi := 2147483668) hl0 rfl rfl rfl ci_d222_0 cj_d222_0 L_0
  exact e2_from hen ha hcall (e2_cutA_ok (e2_fa (fun al st E h hc => EN_0 al st E h hc) e2_fz)) (hC []) (X := e2x_271) ex2_271 0 ck_d222_e
/-! d223 X10_cows -/
def as_d223 : List ev_V := [(2, 83, 0), (11, 0, 4294967295), (11, 0, 4294967295)]
def E_d223 : e2_E := [(2147483648, 2147583648, 0, 0), (2147483648, 2147483656, 1, 0), (2147483648, 2147483688, 2, 0), (2147483648, 2147483688, 3, 0)]
noncomputable def f_d223 : ev_H := (dn1667 : e2_Q8)
noncomputable def q_d223_0 : ev_H := (dn1667 : e2_Q8)
noncomputable def rs_d223 : e2_Rs := [((11, 0, 4294967295), q_d223_0)]
noncomputable def s_d223 : e2_Sm := (271, as_d223, E_d223, f_d223, rs_d223)
noncomputable def S_d223 : List e2_Sm := [s_d2, s_d13, s_d15, s_d93, s_d128, s_d132]
noncomputable def I_d223 : List e2_In := [(212, 3, e2x_212), (215, 2, e2x_215), (216, 1, e2x_216), (220, 2, e2x_220)]
set_option maxRecDepth 1000000 in
theorem co_d223 : e2_okSB E_d223.length as_d223 f_d223 rs_d223 = true := by decide +kernel
def al_d223_0 : List ev_V := [(2, 83, 0), (11, 2147483648, 2147483651), (11, 2147483648, 2147483649), (11, 0, 4294967295), (11, 0, 4294967295), (1, 4, 4294967296)]
def E_d223_0 : e2_E := [(2147483648, 2147583648, 0, 0), (2147483648, 2147483656, 1, 0), (2147483648, 2147483688, 2, 0), (2147483648, 2147483688, 3, 0), (2147483648, 2147483668, 4, 0)]
noncomputable def h_d223_0 : ev_H := (dn1667 : e2_Q8)
noncomputable def cl_d223_e : List (Nat × e2_S) := [(36, e2_cutL (al_d223_0.set 5 (11, 2147483648, 2147483668)) 4 (E_d223_0.take 4) h_d223_0)]
set_option maxRecDepth 1000000 in
theorem ck_d223_e : e2_run (e2_cal S_d223 I_d223 4000 2) (e2_fin rs_d223) e2x_271 (e2_bpL cl_d223_e) (e2_cutA cl_d223_e) 4000 (e2_seek e2x_271 0) (e2_al 6 as_d223) [] E_d223 f_d223 = true := by decide +kernel
noncomputable def cl_d223_0 : List (Nat × e2_S) := [(36, e2_cutL (al_d223_0.set 5 (13, 12, 2147483668)) 4 (E_d223_0.take 4) h_d223_0)]
set_option maxRecDepth 1000000 in
theorem ck_d223_0 : e2_runM (e2_cal S_d223 I_d223 4000 2) (e2_fin rs_d223) e2x_271 (e2_bpL cl_d223_0) (e2_cutA cl_d223_0) 4000 (e2_seek e2x_271 36) al_d223_0 [] E_d223_0 h_d223_0 = true := by decide +kernel
set_option maxRecDepth 1000000 in
theorem ci_d223_0 : e2_idl 4 (al_d223_0.set 5 (9, 0, 0)) = true := by decide +kernel
set_option maxRecDepth 1000000 in
theorem cj_d223_0 : e2_idh 4 8 h_d223_0 = true := by decide +kernel
theorem cs_d223 (hen : en_ok) (l : Launch) (hh : e2_hand_d l) : e2_smOk l 63 s_d223 := by
  refine e2_conG (H := 60) (n := 2) (C := evd_271) (S := S_d223) (I := I_d223) (fuel := 4000) hen ei_271 (e2_fa (hh _ hm_d2) (e2_fa ((cs_d13 hen l).mono (by decide)) (e2_fa ((cs_d15 hen l).mono (by decide)) (e2_fa ((cs_d93 hen l).mono (by decide)) (e2_fa ((cs_d128 hen l).mono (by decide)) (e2_fa ((cs_d132 hen l).mono (by decide)) e2_fz)))))) (e2_fa ein_212 (e2_fa ein_215 (e2_fa ein_216 (e2_fa ein_220 e2_fz)))) (by decide) co_d223 fun M d _ hC hcall p e R s m args below meth c Q D cA A ads r0 ha hl0 => ?_
  have L_0 : e2_gdM M p l e R s m args below meth c Q D cA A ads r0 36 al_d223_0 [] E_d223_0 h_d223_0 := by
    refine e2_indL (u := 4) (j := 5) (lo := 2147483648) (hi := 2147483668) (b := 4) (dd := 0) hl0 (by decide) rfl rfl (Or.inr ⟨rfl, rfl⟩) rfl ci_d223_0 cj_d223_0 ?_
    intro r_0 k_0 hk_0 hp_0 hs_0 hn_0
    have hl_0 : r_0.length ≤ 5 := hs_0.len rfl
    have ha_0 := ha.ext hp_0
    exact e2_fromM hen ha_0 hcall (e2_cutA_ok (e2_fa (fun al st E h hc => hn_0 al st E h hc) e2_fz)) (hC []) (X := e2x_271) ex2_271 36 ck_d223_0
  have EN_0 := e2_entL (u := 4) (j := 5) (lo := 2147483648) (hi := 2147483668) hl0 rfl rfl rfl ci_d223_0 cj_d223_0 L_0
  exact e2_from hen ha hcall (e2_cutA_ok (e2_fa (fun al st E h hc => EN_0 al st E h hc) e2_fz)) (hC []) (X := e2x_271) ex2_271 0 ck_d223_e
/-! d224 X10_cows -/
def as_d224 : List ev_V := [(2, 83, 0), (11, 0, 4294967295), (11, 0, 4294967295)]
def E_d224 : e2_E := [(2147483648, 2147583648, 0, 0), (2147483648, 2147483656, 1, 0), (2147483648, 2147483688, 2, 0), (2147483648, 2147483688, 3, 0)]
noncomputable def f_d224 : ev_H := (dn1670 : e2_Q8)
noncomputable def q_d224_0 : ev_H := (dn1670 : e2_Q8)
noncomputable def rs_d224 : e2_Rs := [((11, 0, 4294967295), q_d224_0)]
noncomputable def s_d224 : e2_Sm := (271, as_d224, E_d224, f_d224, rs_d224)
noncomputable def S_d224 : List e2_Sm := [s_d2, s_d13, s_d15, s_d93, s_d130, s_d132]
noncomputable def I_d224 : List e2_In := [(212, 3, e2x_212), (215, 2, e2x_215), (216, 1, e2x_216), (220, 2, e2x_220)]
set_option maxRecDepth 1000000 in
theorem co_d224 : e2_okSB E_d224.length as_d224 f_d224 rs_d224 = true := by decide +kernel
def al_d224_0 : List ev_V := [(2, 83, 0), (11, 2147483648, 2147483651), (11, 2147483648, 2147483649), (11, 0, 4294967295), (11, 0, 4294967295), (1, 4, 4294967296)]
def E_d224_0 : e2_E := [(2147483648, 2147583648, 0, 0), (2147483648, 2147483656, 1, 0), (2147483648, 2147483688, 2, 0), (2147483648, 2147483688, 3, 0), (2147483648, 2147483668, 4, 0)]
noncomputable def h_d224_0 : ev_H := (dn1670 : e2_Q8)
noncomputable def cl_d224_e : List (Nat × e2_S) := [(36, e2_cutL (al_d224_0.set 5 (11, 2147483648, 2147483668)) 4 (E_d224_0.take 4) h_d224_0)]
set_option maxRecDepth 1000000 in
theorem ck_d224_e : e2_run (e2_cal S_d224 I_d224 4000 2) (e2_fin rs_d224) e2x_271 (e2_bpL cl_d224_e) (e2_cutA cl_d224_e) 4000 (e2_seek e2x_271 0) (e2_al 6 as_d224) [] E_d224 f_d224 = true := by decide +kernel
noncomputable def cl_d224_0 : List (Nat × e2_S) := [(36, e2_cutL (al_d224_0.set 5 (13, 12, 2147483668)) 4 (E_d224_0.take 4) h_d224_0)]
set_option maxRecDepth 1000000 in
theorem ck_d224_0 : e2_runM (e2_cal S_d224 I_d224 4000 2) (e2_fin rs_d224) e2x_271 (e2_bpL cl_d224_0) (e2_cutA cl_d224_0) 4000 (e2_seek e2x_271 36) al_d224_0 [] E_d224_0 h_d224_0 = true := by decide +kernel
set_option maxRecDepth 1000000 in
theorem ci_d224_0 : e2_idl 4 (al_d224_0.set 5 (9, 0, 0)) = true := by decide +kernel
set_option maxRecDepth 1000000 in
theorem cj_d224_0 : e2_idh 4 8 h_d224_0 = true := by decide +kernel
theorem cs_d224 (hen : en_ok) (l : Launch) (hh : e2_hand_d l) : e2_smOk l 66 s_d224 := by
  refine e2_conG (H := 63) (n := 2) (C := evd_271) (S := S_d224) (I := I_d224) (fuel := 4000) hen ei_271 (e2_fa ((hh _ hm_d2).mono (by decide)) (e2_fa ((cs_d13 hen l).mono (by decide)) (e2_fa ((cs_d15 hen l).mono (by decide)) (e2_fa ((cs_d93 hen l).mono (by decide)) (e2_fa (cs_d130 hen l hh) (e2_fa ((cs_d132 hen l).mono (by decide)) e2_fz)))))) (e2_fa ein_212 (e2_fa ein_215 (e2_fa ein_216 (e2_fa ein_220 e2_fz)))) (by decide) co_d224 fun M d _ hC hcall p e R s m args below meth c Q D cA A ads r0 ha hl0 => ?_
  have L_0 : e2_gdM M p l e R s m args below meth c Q D cA A ads r0 36 al_d224_0 [] E_d224_0 h_d224_0 := by
    refine e2_indL (u := 4) (j := 5) (lo := 2147483648) (hi := 2147483668) (b := 4) (dd := 0) hl0 (by decide) rfl rfl (Or.inr ⟨rfl, rfl⟩) rfl ci_d224_0 cj_d224_0 ?_
    intro r_0 k_0 hk_0 hp_0 hs_0 hn_0
    have hl_0 : r_0.length ≤ 5 := hs_0.len rfl
    have ha_0 := ha.ext hp_0
    exact e2_fromM hen ha_0 hcall (e2_cutA_ok (e2_fa (fun al st E h hc => hn_0 al st E h hc) e2_fz)) (hC []) (X := e2x_271) ex2_271 36 ck_d224_0
  have EN_0 := e2_entL (u := 4) (j := 5) (lo := 2147483648) (hi := 2147483668) hl0 rfl rfl rfl ci_d224_0 cj_d224_0 L_0
  exact e2_from hen ha hcall (e2_cutA_ok (e2_fa (fun al st E h hc => EN_0 al st E h hc) e2_fz)) (hC []) (X := e2x_271) ex2_271 0 ck_d224_e
/-! d225 X10_answered -/
def as_d225 : List ev_V := [(2, 83, 0), (11, 2147483648, 2147483651), (11, 0, 4294967295), (11, 0, 4294967295)]
def E_d225 : e2_E := [(2147483648, 2147583648, 0, 0), (2147483648, 2147483656, 1, 0), (2147483648, 2147483688, 2, 0), (2147483648, 2147483688, 3, 0)]
def dn1858 : e2_Q7 := (dn1019, dn1712)
def dn1859 : e2_Q8 := (dn1705, dn1858)
noncomputable def f_d225 : ev_H := (dn1859 : e2_Q8)
noncomputable def q_d225_0 : ev_H := (dn1859 : e2_Q8)
noncomputable def rs_d225 : e2_Rs := [((11, 0, 4294967295), q_d225_0)]
noncomputable def s_d225 : e2_Sm := (272, as_d225, E_d225, f_d225, rs_d225)
noncomputable def S_d225 : List e2_Sm := [s_d93, s_d132]
noncomputable def I_d225 : List e2_In := [(215, 2, e2x_215), (216, 1, e2x_216)]
set_option maxRecDepth 1000000 in
theorem co_d225 : e2_okSB E_d225.length as_d225 f_d225 rs_d225 = true := by decide +kernel
def al_d225_0 : List ev_V := [(2, 83, 0), (11, 2147483648, 2147483651), (11, 0, 4294967295), (11, 0, 4294967295), (11, 0, 4294967295), (1, 4, 4294967296), (9, 0, 0)]
def E_d225_0 : e2_E := [(2147483648, 2147583648, 0, 0), (2147483648, 2147483656, 1, 0), (2147483648, 2147483688, 2, 0), (2147483648, 2147483688, 3, 0), (2147483648, 2147483668, 4, 0)]
noncomputable def h_d225_0 : ev_H := (dn1859 : e2_Q8)
noncomputable def cl_d225_e : List (Nat × e2_S) := [(11, e2_cutL (al_d225_0.set 5 (11, 2147483648, 2147483668)) 4 (E_d225_0.take 4) h_d225_0)]
set_option maxRecDepth 1000000 in
theorem ck_d225_e : e2_run (e2_cal S_d225 I_d225 4000 1) (e2_fin rs_d225) e2x_272 (e2_bpL cl_d225_e) (e2_cutA cl_d225_e) 4000 (e2_seek e2x_272 0) (e2_al 7 as_d225) [] E_d225 f_d225 = true := by decide +kernel
noncomputable def cl_d225_0 : List (Nat × e2_S) := [(11, e2_cutL (al_d225_0.set 5 (13, 12, 2147483668)) 4 (E_d225_0.take 4) h_d225_0)]
set_option maxRecDepth 1000000 in
theorem ck_d225_0 : e2_runM (e2_cal S_d225 I_d225 4000 1) (e2_fin rs_d225) e2x_272 (e2_bpL cl_d225_0) (e2_cutA cl_d225_0) 4000 (e2_seek e2x_272 11) al_d225_0 [] E_d225_0 h_d225_0 = true := by decide +kernel
set_option maxRecDepth 1000000 in
theorem ci_d225_0 : e2_idl 4 (al_d225_0.set 5 (9, 0, 0)) = true := by decide +kernel
set_option maxRecDepth 1000000 in
theorem cj_d225_0 : e2_idh 4 8 h_d225_0 = true := by decide +kernel
theorem cs_d225 (hen : en_ok) (l : Launch) : e2_smOk l 7 s_d225 := by
  refine e2_conG (H := 5) (n := 1) (C := evd_272) (S := S_d225) (I := I_d225) (fuel := 4000) hen ei_272 (e2_fa (cs_d93 hen l) (e2_fa ((cs_d132 hen l).mono (by decide)) e2_fz)) (e2_fa ein_215 (e2_fa ein_216 e2_fz)) (by decide) co_d225 fun M d _ hC hcall p e R s m args below meth c Q D cA A ads r0 ha hl0 => ?_
  have L_0 : e2_gdM M p l e R s m args below meth c Q D cA A ads r0 11 al_d225_0 [] E_d225_0 h_d225_0 := by
    refine e2_indL (u := 4) (j := 5) (lo := 2147483648) (hi := 2147483668) (b := 4) (dd := 0) hl0 (by decide) rfl rfl (Or.inr ⟨rfl, rfl⟩) rfl ci_d225_0 cj_d225_0 ?_
    intro r_0 k_0 hk_0 hp_0 hs_0 hn_0
    have hl_0 : r_0.length ≤ 5 := hs_0.len rfl
    have ha_0 := ha.ext hp_0
    exact e2_fromM hen ha_0 hcall (e2_cutA_ok (e2_fa (fun al st E h hc => hn_0 al st E h hc) e2_fz)) (hC []) (X := e2x_272) ex2_272 11 ck_d225_0
  have EN_0 := e2_entL (u := 4) (j := 5) (lo := 2147483648) (hi := 2147483668) hl0 rfl rfl rfl ci_d225_0 cj_d225_0 L_0
  exact e2_from hen ha hcall (e2_cutA_ok (e2_fa (fun al st E h hc => EN_0 al st E h hc) e2_fz)) (hC []) (X := e2x_272) ex2_272 0 ck_d225_e
/-! d226 X10_isOpenSet -/
def as_d226 : List ev_V := [(2, 83, 0), (11, 0, 4294967295)]
def E_d226 : e2_E := [(2147483648, 2147583648, 0, 0), (2147483648, 2147483656, 1, 0), (2147483648, 2147483688, 2, 0), (2147483648, 2147483688, 3, 0)]
noncomputable def f_d226 : ev_H := (dn360 : e2_Q8)
noncomputable def q_d226_0 : ev_H := (dn360 : e2_Q8)
noncomputable def rs_d226 : e2_Rs := [((11, 2147483648, 2147483649), q_d226_0)]
noncomputable def s_d226 : e2_Sm := (273, as_d226, E_d226, f_d226, rs_d226)
noncomputable def S_d226 : List e2_Sm := [s_d15]
noncomputable def I_d226 : List e2_In := []
set_option maxRecDepth 1000000 in
theorem ck_d226 : e2_run (e2_cal S_d226 I_d226 4000 0) (e2_fin rs_d226) e2x_273 (fun _ => false) (fun _ _ _ _ _ => false) 4000 (e2_seek e2x_273 0) (e2_al 2 as_d226) [] E_d226 f_d226 = true := by decide +kernel
set_option maxRecDepth 1000000 in
theorem co_d226 : e2_okSB E_d226.length as_d226 f_d226 rs_d226 = true := by decide +kernel
theorem cs_d226 (hen : en_ok) (l : Launch) : e2_smOk l 6 s_d226 := e2_con0 (H := 5) (n := 0) (C := evd_273) (S := S_d226) (I := I_d226) (fuel := 4000) [] hen ei_273 (e2_fa (cs_d15 hen l) e2_fz) e2_fz (by decide) co_d226 ex2_273 ck_d226
/-! d227 X10_duel -/
def as_d227 : List ev_V := [(2, 83, 0), (11, 0, 4294967295), (11, 0, 4294967295), (11, 0, 4294967295), (11, 0, 4294967295)]
def E_d227 : e2_E := [(2147483648, 2147583648, 0, 0), (2147483648, 2147483656, 1, 0), (2147483648, 2147483688, 2, 0), (2147483648, 2147483688, 3, 0)]
noncomputable def f_d227 : ev_H := (dn1662 : e2_Q8)
noncomputable def q_d227_0 : ev_H := (dn1662 : e2_Q8)
noncomputable def rs_d227 : e2_Rs := [((11, 0, 4294967295), q_d227_0)]
noncomputable def s_d227 : e2_Sm := (274, as_d227, E_d227, f_d227, rs_d227)
noncomputable def S_d227 : List e2_Sm := [s_d13, s_d16, s_d225, s_d226]
noncomputable def I_d227 : List e2_In := [(212, 3, e2x_212), (215, 2, e2x_215), (216, 1, e2x_216), (220, 2, e2x_220)]
set_option maxRecDepth 1000000 in
theorem co_d227 : e2_okSB E_d227.length as_d227 f_d227 rs_d227 = true := by decide +kernel
def al_d227_0 : List ev_V := [(2, 83, 0), (11, 2147483648, 2147483651), (11, 0, 4294967295), (11, 0, 4294967295), (11, 2147483648, 2147483650), (11, 2147483647, 2147483667), (11, 0, 4294967295), (11, 0, 4294967295), (1, 4, 4294967296), (9, 0, 0)]
def E_d227_0 : e2_E := [(2147483648, 2147583648, 0, 0), (2147483648, 2147483656, 1, 0), (2147483648, 2147483688, 2, 0), (2147483648, 2147483688, 3, 0), (2147483648, 2147483668, 4, 0)]
noncomputable def h_d227_0 : ev_H := (dn1662 : e2_Q8)
noncomputable def cl_d227_e : List (Nat × e2_S) := [(60, e2_cutL (al_d227_0.set 8 (11, 2147483648, 2147483668)) 4 (E_d227_0.take 4) h_d227_0)]
set_option maxRecDepth 1000000 in
theorem ck_d227_e : e2_run (e2_cal S_d227 I_d227 4000 2) (e2_fin rs_d227) e2x_274 (e2_bpL cl_d227_e) (e2_cutA cl_d227_e) 4000 (e2_seek e2x_274 0) (e2_al 10 as_d227) [] E_d227 f_d227 = true := by decide +kernel
noncomputable def cl_d227_0 : List (Nat × e2_S) := [(60, e2_cutL (al_d227_0.set 8 (13, 12, 2147483668)) 4 (E_d227_0.take 4) h_d227_0)]
set_option maxRecDepth 1000000 in
theorem ck_d227_0 : e2_runM (e2_cal S_d227 I_d227 4000 2) (e2_fin rs_d227) e2x_274 (e2_bpL cl_d227_0) (e2_cutA cl_d227_0) 4000 (e2_seek e2x_274 60) al_d227_0 [] E_d227_0 h_d227_0 = true := by decide +kernel
set_option maxRecDepth 1000000 in
theorem ci_d227_0 : e2_idl 4 (al_d227_0.set 8 (9, 0, 0)) = true := by decide +kernel
set_option maxRecDepth 1000000 in
theorem cj_d227_0 : e2_idh 4 8 h_d227_0 = true := by decide +kernel
theorem cs_d227 (hen : en_ok) (l : Launch) : e2_smOk l 10 s_d227 := by
  refine e2_conG (H := 7) (n := 2) (C := evd_274) (S := S_d227) (I := I_d227) (fuel := 4000) hen ei_274 (e2_fa ((cs_d13 hen l).mono (by decide)) (e2_fa ((cs_d16 hen l).mono (by decide)) (e2_fa (cs_d225 hen l) (e2_fa ((cs_d226 hen l).mono (by decide)) e2_fz)))) (e2_fa ein_212 (e2_fa ein_215 (e2_fa ein_216 (e2_fa ein_220 e2_fz)))) (by decide) co_d227 fun M d _ hC hcall p e R s m args below meth c Q D cA A ads r0 ha hl0 => ?_
  have L_0 : e2_gdM M p l e R s m args below meth c Q D cA A ads r0 60 al_d227_0 [] E_d227_0 h_d227_0 := by
    refine e2_indL (u := 4) (j := 8) (lo := 2147483648) (hi := 2147483668) (b := 4) (dd := 0) hl0 (by decide) rfl rfl (Or.inr ⟨rfl, rfl⟩) rfl ci_d227_0 cj_d227_0 ?_
    intro r_0 k_0 hk_0 hp_0 hs_0 hn_0
    have hl_0 : r_0.length ≤ 5 := hs_0.len rfl
    have ha_0 := ha.ext hp_0
    exact e2_fromM hen ha_0 hcall (e2_cutA_ok (e2_fa (fun al st E h hc => hn_0 al st E h hc) e2_fz)) (hC []) (X := e2x_274) ex2_274 60 ck_d227_0
  have EN_0 := e2_entL (u := 4) (j := 8) (lo := 2147483648) (hi := 2147483668) hl0 rfl rfl rfl ci_d227_0 cj_d227_0 L_0
  exact e2_from hen ha hcall (e2_cutA_ok (e2_fa (fun al st E h hc => EN_0 al st E h hc) e2_fz)) (hC []) (X := e2x_274) ex2_274 0 ck_d227_e
/-! d228 X10_duel -/
def as_d228 : List ev_V := [(2, 83, 0), (11, 0, 4294967295), (11, 0, 4294967295), (11, 0, 4294967295), (11, 0, 4294967295)]
def E_d228 : e2_E := [(2147483648, 2147583648, 0, 0), (2147483648, 2147483656, 1, 0), (2147483648, 2147483688, 2, 0), (2147483648, 2147483688, 3, 0)]
noncomputable def f_d228 : ev_H := (dn1666 : e2_Q8)
noncomputable def q_d228_0 : ev_H := (dn1666 : e2_Q8)
noncomputable def rs_d228 : e2_Rs := [((11, 0, 4294967295), q_d228_0)]
noncomputable def s_d228 : e2_Sm := (274, as_d228, E_d228, f_d228, rs_d228)
noncomputable def S_d228 : List e2_Sm := [s_d13, s_d18, s_d225, s_d226]
noncomputable def I_d228 : List e2_In := [(212, 3, e2x_212), (215, 2, e2x_215), (216, 1, e2x_216), (220, 2, e2x_220)]
set_option maxRecDepth 1000000 in
theorem co_d228 : e2_okSB E_d228.length as_d228 f_d228 rs_d228 = true := by decide +kernel
def al_d228_0 : List ev_V := [(2, 83, 0), (11, 2147483648, 2147483651), (11, 0, 4294967295), (11, 0, 4294967295), (11, 2147483648, 2147483650), (11, 2147483647, 2147483667), (11, 0, 4294967295), (11, 0, 4294967295), (1, 4, 4294967296), (9, 0, 0)]
def E_d228_0 : e2_E := [(2147483648, 2147583648, 0, 0), (2147483648, 2147483656, 1, 0), (2147483648, 2147483688, 2, 0), (2147483648, 2147483688, 3, 0), (2147483648, 2147483668, 4, 0)]
noncomputable def h_d228_0 : ev_H := (dn1666 : e2_Q8)
noncomputable def cl_d228_e : List (Nat × e2_S) := [(60, e2_cutL (al_d228_0.set 8 (11, 2147483648, 2147483668)) 4 (E_d228_0.take 4) h_d228_0)]
set_option maxRecDepth 1000000 in
theorem ck_d228_e : e2_run (e2_cal S_d228 I_d228 4000 2) (e2_fin rs_d228) e2x_274 (e2_bpL cl_d228_e) (e2_cutA cl_d228_e) 4000 (e2_seek e2x_274 0) (e2_al 10 as_d228) [] E_d228 f_d228 = true := by decide +kernel
noncomputable def cl_d228_0 : List (Nat × e2_S) := [(60, e2_cutL (al_d228_0.set 8 (13, 12, 2147483668)) 4 (E_d228_0.take 4) h_d228_0)]
set_option maxRecDepth 1000000 in
theorem ck_d228_0 : e2_runM (e2_cal S_d228 I_d228 4000 2) (e2_fin rs_d228) e2x_274 (e2_bpL cl_d228_0) (e2_cutA cl_d228_0) 4000 (e2_seek e2x_274 60) al_d228_0 [] E_d228_0 h_d228_0 = true := by decide +kernel
set_option maxRecDepth 1000000 in
theorem ci_d228_0 : e2_idl 4 (al_d228_0.set 8 (9, 0, 0)) = true := by decide +kernel
set_option maxRecDepth 1000000 in
theorem cj_d228_0 : e2_idh 4 8 h_d228_0 = true := by decide +kernel
theorem cs_d228 (hen : en_ok) (l : Launch) (hh : e2_hand_d l) : e2_smOk l 65 s_d228 := by
  refine e2_conG (H := 62) (n := 2) (C := evd_274) (S := S_d228) (I := I_d228) (fuel := 4000) hen ei_274 (e2_fa ((cs_d13 hen l).mono (by decide)) (e2_fa (cs_d18 hen l hh) (e2_fa ((cs_d225 hen l).mono (by decide)) (e2_fa ((cs_d226 hen l).mono (by decide)) e2_fz)))) (e2_fa ein_212 (e2_fa ein_215 (e2_fa ein_216 (e2_fa ein_220 e2_fz)))) (by decide) co_d228 fun M d _ hC hcall p e R s m args below meth c Q D cA A ads r0 ha hl0 => ?_
  have L_0 : e2_gdM M p l e R s m args below meth c Q D cA A ads r0 60 al_d228_0 [] E_d228_0 h_d228_0 := by
    refine e2_indL (u := 4) (j := 8) (lo := 2147483648) (hi := 2147483668) (b := 4) (dd := 0) hl0 (by decide) rfl rfl (Or.inr ⟨rfl, rfl⟩) rfl ci_d228_0 cj_d228_0 ?_
    intro r_0 k_0 hk_0 hp_0 hs_0 hn_0
    have hl_0 : r_0.length ≤ 5 := hs_0.len rfl
    have ha_0 := ha.ext hp_0
    exact e2_fromM hen ha_0 hcall (e2_cutA_ok (e2_fa (fun al st E h hc => hn_0 al st E h hc) e2_fz)) (hC []) (X := e2x_274) ex2_274 60 ck_d228_0
  have EN_0 := e2_entL (u := 4) (j := 8) (lo := 2147483648) (hi := 2147483668) hl0 rfl rfl rfl ci_d228_0 cj_d228_0 L_0
  exact e2_from hen ha hcall (e2_cutA_ok (e2_fa (fun al st E h hc => EN_0 al st E h hc) e2_fz)) (hC []) (X := e2x_274) ex2_274 0 ck_d228_e
/-! d229 X10_duel -/
def as_d229 : List ev_V := [(2, 83, 0), (11, 0, 4294967295), (11, 0, 4294967295), (11, 0, 4294967295), (11, 0, 4294967295)]
def E_d229 : e2_E := [(2147483648, 2147583648, 0, 0), (2147483648, 2147483656, 1, 0), (2147483648, 2147483688, 2, 0), (2147483648, 2147483688, 3, 0)]
noncomputable def f_d229 : ev_H := (dn1667 : e2_Q8)
noncomputable def q_d229_0 : ev_H := (dn1667 : e2_Q8)
noncomputable def rs_d229 : e2_Rs := [((11, 0, 4294967295), q_d229_0)]
noncomputable def s_d229 : e2_Sm := (274, as_d229, E_d229, f_d229, rs_d229)
noncomputable def S_d229 : List e2_Sm := [s_d13, s_d20, s_d225, s_d226]
noncomputable def I_d229 : List e2_In := [(212, 3, e2x_212), (215, 2, e2x_215), (216, 1, e2x_216), (220, 2, e2x_220)]
set_option maxRecDepth 1000000 in
theorem co_d229 : e2_okSB E_d229.length as_d229 f_d229 rs_d229 = true := by decide +kernel
def al_d229_0 : List ev_V := [(2, 83, 0), (11, 2147483648, 2147483651), (11, 0, 4294967295), (11, 0, 4294967295), (11, 2147483648, 2147483650), (11, 2147483647, 2147483667), (11, 0, 4294967295), (11, 0, 4294967295), (1, 4, 4294967296), (9, 0, 0)]
def E_d229_0 : e2_E := [(2147483648, 2147583648, 0, 0), (2147483648, 2147483656, 1, 0), (2147483648, 2147483688, 2, 0), (2147483648, 2147483688, 3, 0), (2147483648, 2147483668, 4, 0)]
noncomputable def h_d229_0 : ev_H := (dn1667 : e2_Q8)
noncomputable def cl_d229_e : List (Nat × e2_S) := [(60, e2_cutL (al_d229_0.set 8 (11, 2147483648, 2147483668)) 4 (E_d229_0.take 4) h_d229_0)]
set_option maxRecDepth 1000000 in
theorem ck_d229_e : e2_run (e2_cal S_d229 I_d229 4000 2) (e2_fin rs_d229) e2x_274 (e2_bpL cl_d229_e) (e2_cutA cl_d229_e) 4000 (e2_seek e2x_274 0) (e2_al 10 as_d229) [] E_d229 f_d229 = true := by decide +kernel
noncomputable def cl_d229_0 : List (Nat × e2_S) := [(60, e2_cutL (al_d229_0.set 8 (13, 12, 2147483668)) 4 (E_d229_0.take 4) h_d229_0)]
set_option maxRecDepth 1000000 in
theorem ck_d229_0 : e2_runM (e2_cal S_d229 I_d229 4000 2) (e2_fin rs_d229) e2x_274 (e2_bpL cl_d229_0) (e2_cutA cl_d229_0) 4000 (e2_seek e2x_274 60) al_d229_0 [] E_d229_0 h_d229_0 = true := by decide +kernel
set_option maxRecDepth 1000000 in
theorem ci_d229_0 : e2_idl 4 (al_d229_0.set 8 (9, 0, 0)) = true := by decide +kernel
set_option maxRecDepth 1000000 in
theorem cj_d229_0 : e2_idh 4 8 h_d229_0 = true := by decide +kernel
theorem cs_d229 (hen : en_ok) (l : Launch) : e2_smOk l 10 s_d229 := by
  refine e2_conG (H := 7) (n := 2) (C := evd_274) (S := S_d229) (I := I_d229) (fuel := 4000) hen ei_274 (e2_fa ((cs_d13 hen l).mono (by decide)) (e2_fa ((cs_d20 hen l).mono (by decide)) (e2_fa (cs_d225 hen l) (e2_fa ((cs_d226 hen l).mono (by decide)) e2_fz)))) (e2_fa ein_212 (e2_fa ein_215 (e2_fa ein_216 (e2_fa ein_220 e2_fz)))) (by decide) co_d229 fun M d _ hC hcall p e R s m args below meth c Q D cA A ads r0 ha hl0 => ?_
  have L_0 : e2_gdM M p l e R s m args below meth c Q D cA A ads r0 60 al_d229_0 [] E_d229_0 h_d229_0 := by
    refine e2_indL (u := 4) (j := 8) (lo := 2147483648) (hi := 2147483668) (b := 4) (dd := 0) hl0 (by decide) rfl rfl (Or.inr ⟨rfl, rfl⟩) rfl ci_d229_0 cj_d229_0 ?_
    intro r_0 k_0 hk_0 hp_0 hs_0 hn_0
    have hl_0 : r_0.length ≤ 5 := hs_0.len rfl
    have ha_0 := ha.ext hp_0
    exact e2_fromM hen ha_0 hcall (e2_cutA_ok (e2_fa (fun al st E h hc => hn_0 al st E h hc) e2_fz)) (hC []) (X := e2x_274) ex2_274 60 ck_d229_0
  have EN_0 := e2_entL (u := 4) (j := 8) (lo := 2147483648) (hi := 2147483668) hl0 rfl rfl rfl ci_d229_0 cj_d229_0 L_0
  exact e2_from hen ha hcall (e2_cutA_ok (e2_fa (fun al st E h hc => EN_0 al st E h hc) e2_fz)) (hC []) (X := e2x_274) ex2_274 0 ck_d229_e
/-! d230 X10_duel -/
def as_d230 : List ev_V := [(2, 83, 0), (11, 0, 4294967295), (11, 0, 4294967295), (11, 0, 4294967295), (11, 0, 4294967295)]
def E_d230 : e2_E := [(2147483648, 2147583648, 0, 0), (2147483648, 2147483656, 1, 0), (2147483648, 2147483688, 2, 0), (2147483648, 2147483688, 3, 0)]
noncomputable def f_d230 : ev_H := (dn1670 : e2_Q8)
noncomputable def q_d230_0 : ev_H := (dn1670 : e2_Q8)
noncomputable def rs_d230 : e2_Rs := [((11, 0, 4294967295), q_d230_0)]
noncomputable def s_d230 : e2_Sm := (274, as_d230, E_d230, f_d230, rs_d230)
noncomputable def S_d230 : List e2_Sm := [s_d13, s_d22, s_d225, s_d226]
noncomputable def I_d230 : List e2_In := [(212, 3, e2x_212), (215, 2, e2x_215), (216, 1, e2x_216), (220, 2, e2x_220)]
set_option maxRecDepth 1000000 in
theorem co_d230 : e2_okSB E_d230.length as_d230 f_d230 rs_d230 = true := by decide +kernel
def al_d230_0 : List ev_V := [(2, 83, 0), (11, 2147483648, 2147483651), (11, 0, 4294967295), (11, 0, 4294967295), (11, 2147483648, 2147483650), (11, 2147483647, 2147483667), (11, 0, 4294967295), (11, 0, 4294967295), (1, 4, 4294967296), (9, 0, 0)]
def E_d230_0 : e2_E := [(2147483648, 2147583648, 0, 0), (2147483648, 2147483656, 1, 0), (2147483648, 2147483688, 2, 0), (2147483648, 2147483688, 3, 0), (2147483648, 2147483668, 4, 0)]
noncomputable def h_d230_0 : ev_H := (dn1670 : e2_Q8)
noncomputable def cl_d230_e : List (Nat × e2_S) := [(60, e2_cutL (al_d230_0.set 8 (11, 2147483648, 2147483668)) 4 (E_d230_0.take 4) h_d230_0)]
set_option maxRecDepth 1000000 in
theorem ck_d230_e : e2_run (e2_cal S_d230 I_d230 4000 2) (e2_fin rs_d230) e2x_274 (e2_bpL cl_d230_e) (e2_cutA cl_d230_e) 4000 (e2_seek e2x_274 0) (e2_al 10 as_d230) [] E_d230 f_d230 = true := by decide +kernel
noncomputable def cl_d230_0 : List (Nat × e2_S) := [(60, e2_cutL (al_d230_0.set 8 (13, 12, 2147483668)) 4 (E_d230_0.take 4) h_d230_0)]
set_option maxRecDepth 1000000 in
theorem ck_d230_0 : e2_runM (e2_cal S_d230 I_d230 4000 2) (e2_fin rs_d230) e2x_274 (e2_bpL cl_d230_0) (e2_cutA cl_d230_0) 4000 (e2_seek e2x_274 60) al_d230_0 [] E_d230_0 h_d230_0 = true := by decide +kernel
set_option maxRecDepth 1000000 in
theorem ci_d230_0 : e2_idl 4 (al_d230_0.set 8 (9, 0, 0)) = true := by decide +kernel
set_option maxRecDepth 1000000 in
theorem cj_d230_0 : e2_idh 4 8 h_d230_0 = true := by decide +kernel
theorem cs_d230 (hen : en_ok) (l : Launch) (hh : e2_hand_d l) : e2_smOk l 65 s_d230 := by
  refine e2_conG (H := 62) (n := 2) (C := evd_274) (S := S_d230) (I := I_d230) (fuel := 4000) hen ei_274 (e2_fa ((cs_d13 hen l).mono (by decide)) (e2_fa (cs_d22 hen l hh) (e2_fa ((cs_d225 hen l).mono (by decide)) (e2_fa ((cs_d226 hen l).mono (by decide)) e2_fz)))) (e2_fa ein_212 (e2_fa ein_215 (e2_fa ein_216 (e2_fa ein_220 e2_fz)))) (by decide) co_d230 fun M d _ hC hcall p e R s m args below meth c Q D cA A ads r0 ha hl0 => ?_
  have L_0 : e2_gdM M p l e R s m args below meth c Q D cA A ads r0 60 al_d230_0 [] E_d230_0 h_d230_0 := by
    refine e2_indL (u := 4) (j := 8) (lo := 2147483648) (hi := 2147483668) (b := 4) (dd := 0) hl0 (by decide) rfl rfl (Or.inr ⟨rfl, rfl⟩) rfl ci_d230_0 cj_d230_0 ?_
    intro r_0 k_0 hk_0 hp_0 hs_0 hn_0
    have hl_0 : r_0.length ≤ 5 := hs_0.len rfl
    have ha_0 := ha.ext hp_0
    exact e2_fromM hen ha_0 hcall (e2_cutA_ok (e2_fa (fun al st E h hc => hn_0 al st E h hc) e2_fz)) (hC []) (X := e2x_274) ex2_274 60 ck_d230_0
  have EN_0 := e2_entL (u := 4) (j := 8) (lo := 2147483648) (hi := 2147483668) hl0 rfl rfl rfl ci_d230_0 cj_d230_0 L_0
  exact e2_from hen ha hcall (e2_cutA_ok (e2_fa (fun al st E h hc => EN_0 al st E h hc) e2_fz)) (hC []) (X := e2x_274) ex2_274 0 ck_d230_e
/-! d231 X10_heard -/
def as_d231 : List ev_V := [(2, 83, 0), (11, 0, 4294967295), (11, 0, 4294967295), (11, 0, 4294967295), (11, 2147483648, 2147483649)]
def E_d231 : e2_E := [(2147483648, 2147583648, 0, 0), (2147483648, 2147483656, 1, 0), (2147483648, 2147483688, 2, 0), (2147483648, 2147483688, 3, 0)]
def dc219 : ev_C := (54, [(0, 30, 0), (11, 0, 4294967295)])
def dn1860 : e2_Q1 := (dc0, dc219)
def dn1861 : e2_Q2 := (dn1860, dn1)
def dn1862 : e2_Q3 := (dn1861, dn5)
def dn1863 : e2_Q4 := (dn1862, dn265)
def dn1864 : e2_Q5 := (dn1863, dn433)
def dn1865 : e2_Q6 := (dn1864, dn61)
def dn1866 : e2_Q1 := (dc219, dc3)
def dn1867 : e2_Q2 := (dn119, dn1866)
def dn1868 : e2_Q3 := (dn118, dn1867)
def dn1869 : e2_Q4 := (dn115, dn1868)
def dn1870 : e2_Q5 := (dn272, dn1869)
def dn1871 : e2_Q6 := (dn93, dn1870)
def dn1872 : e2_Q7 := (dn1865, dn1871)
def dn1873 : e2_Q1 := (dc68, dc219)
def dn1874 : e2_Q2 := (dn1873, dn128)
def dn1875 : e2_Q3 := (dn1874, dn132)
def dn1876 : e2_Q4 := (dn1875, dn140)
def dn1877 : e2_Q5 := (dn1876, dn156)
def dn1878 : e2_Q6 := (dn1877, dn188)
def dn1879 : e2_Q2 := (dn246, dn1866)
def dn1880 : e2_Q3 := (dn245, dn1879)
def dn1881 : e2_Q4 := (dn242, dn1880)
def dn1882 : e2_Q5 := (dn235, dn1881)
def dn1883 : e2_Q6 := (dn220, dn1882)
def dn1884 : e2_Q7 := (dn1878, dn1883)
def dn1885 : e2_Q8 := (dn1872, dn1884)
noncomputable def f_d231 : ev_H := (dn1885 : e2_Q8)
noncomputable def q_d231_0 : ev_H := (dn1885 : e2_Q8)
noncomputable def rs_d231 : e2_Rs := [((11, 2147483647, 2147483677), q_d231_0)]
noncomputable def s_d231 : e2_Sm := (278, as_d231, E_d231, f_d231, rs_d231)
noncomputable def S_d231 : List e2_Sm := []
noncomputable def I_d231 : List e2_In := [(212, 3, e2x_212), (217, 1, e2x_217), (275, 1, e2x_275), (276, 2, e2x_276), (277, 3, e2x_277)]
set_option maxRecDepth 1000000 in
theorem ck_d231 : e2_run (e2_cal S_d231 I_d231 4000 3) (e2_fin rs_d231) e2x_278 (fun _ => false) (fun _ _ _ _ _ => false) 4000 (e2_seek e2x_278 0) (e2_al 5 as_d231) [] E_d231 f_d231 = true := by decide +kernel
set_option maxRecDepth 1000000 in
theorem co_d231 : e2_okSB E_d231.length as_d231 f_d231 rs_d231 = true := by decide +kernel
theorem cs_d231 (hen : en_ok) (l : Launch) : e2_smOk l 4 s_d231 := e2_con0 (H := 0) (n := 3) (C := evd_278) (S := S_d231) (I := I_d231) (fuel := 4000) [] hen ei_278 e2_fz (e2_fa ein_212 (e2_fa ein_217 (e2_fa ein_275 (e2_fa ein_276 (e2_fa ein_277 e2_fz))))) (by decide) co_d231 ex2_278 ck_d231
/-! d232 X10_doesFit -/
def as_d232 : List ev_V := [(2, 83, 0), (11, 2147483648, 4294967295), (11, 0, 4294967295)]
def E_d232 : e2_E := [(2147483648, 2147583648, 0, 0), (2147483648, 2147483656, 1, 0), (2147483648, 2147483688, 2, 0), (2147483648, 2147483688, 3, 0)]
def dn1886 : e2_Q5 := (dn1863, dn29)
def dn1887 : e2_Q6 := (dn1886, dn61)
def dn1888 : e2_Q7 := (dn1887, dn1871)
def dn1889 : e2_Q8 := (dn1888, dn1884)
noncomputable def f_d232 : ev_H := (dn1889 : e2_Q8)
noncomputable def q_d232_0 : ev_H := (dn1889 : e2_Q8)
noncomputable def rs_d232 : e2_Rs := [((11, 2147483648, 2147483649), q_d232_0)]
noncomputable def s_d232 : e2_Sm := (281, as_d232, E_d232, f_d232, rs_d232)
noncomputable def S_d232 : List e2_Sm := []
noncomputable def I_d232 : List e2_In := []
set_option maxRecDepth 1000000 in
theorem co_d232 : e2_okSB E_d232.length as_d232 f_d232 rs_d232 = true := by decide +kernel
def al_d232_0 : List ev_V := [(2, 83, 0), (11, 2147483648, 4294967295), (11, 0, 4294967295), (1, 4, 4294967296), (9, 0, 0)]
def E_d232_0 : e2_E := [(2147483648, 2147583648, 0, 0), (2147483648, 2147483656, 1, 0), (2147483648, 2147483688, 2, 0), (2147483648, 2147483688, 3, 0), (2147483648, 2147483678, 4, 0)]
noncomputable def h_d232_0 : ev_H := (dn1889 : e2_Q8)
noncomputable def cl_d232_e : List (Nat × e2_S) := [(2, e2_cutL (al_d232_0.set 3 (11, 2147483648, 2147483678)) 4 (E_d232_0.take 4) h_d232_0)]
set_option maxRecDepth 1000000 in
theorem ck_d232_e : e2_run (e2_cal S_d232 I_d232 4000 0) (e2_fin rs_d232) e2x_281 (e2_bpL cl_d232_e) (e2_cutA cl_d232_e) 4000 (e2_seek e2x_281 0) (e2_al 5 as_d232) [] E_d232 f_d232 = true := by decide +kernel
noncomputable def cl_d232_0 : List (Nat × e2_S) := [(2, e2_cutL (al_d232_0.set 3 (13, 12, 2147483678)) 4 (E_d232_0.take 4) h_d232_0)]
set_option maxRecDepth 1000000 in
theorem ck_d232_0 : e2_runM (e2_cal S_d232 I_d232 4000 0) (e2_fin rs_d232) e2x_281 (e2_bpL cl_d232_0) (e2_cutA cl_d232_0) 4000 (e2_seek e2x_281 2) al_d232_0 [] E_d232_0 h_d232_0 = true := by decide +kernel
set_option maxRecDepth 1000000 in
theorem ci_d232_0 : e2_idl 4 (al_d232_0.set 3 (9, 0, 0)) = true := by decide +kernel
set_option maxRecDepth 1000000 in
theorem cj_d232_0 : e2_idh 4 8 h_d232_0 = true := by decide +kernel
theorem cs_d232 (hen : en_ok) (l : Launch) : e2_smOk l 1 s_d232 := by
  refine e2_conG (H := 0) (n := 0) (C := evd_281) (S := S_d232) (I := I_d232) (fuel := 4000) hen ei_281 e2_fz e2_fz (by decide) co_d232 fun M d _ hC hcall p e R s m args below meth c Q D cA A ads r0 ha hl0 => ?_
  have L_0 : e2_gdM M p l e R s m args below meth c Q D cA A ads r0 2 al_d232_0 [] E_d232_0 h_d232_0 := by
    refine e2_indL (u := 4) (j := 3) (lo := 2147483648) (hi := 2147483678) (b := 4) (dd := 0) hl0 (by decide) rfl rfl (Or.inr ⟨rfl, rfl⟩) rfl ci_d232_0 cj_d232_0 ?_
    intro r_0 k_0 hk_0 hp_0 hs_0 hn_0
    have hl_0 : r_0.length ≤ 5 := hs_0.len rfl
    have ha_0 := ha.ext hp_0
    exact e2_fromM hen ha_0 hcall (e2_cutA_ok (e2_fa (fun al st E h hc => hn_0 al st E h hc) e2_fz)) (hC []) (X := e2x_281) ex2_281 2 ck_d232_0
  have EN_0 := e2_entL (u := 4) (j := 3) (lo := 2147483648) (hi := 2147483678) hl0 rfl rfl rfl ci_d232_0 cj_d232_0 L_0
  exact e2_from hen ha hcall (e2_cutA_ok (e2_fa (fun al st E h hc => EN_0 al st E h hc) e2_fz)) (hC []) (X := e2x_281) ex2_281 0 ck_d232_e
/-! d233 X10_layFit -/
def as_d233 : List ev_V := [(2, 83, 0), (11, 0, 4294967295)]
def E_d233 : e2_E := [(2147483648, 2147583648, 0, 0), (2147483648, 2147483656, 1, 0), (2147483648, 2147483688, 2, 0), (2147483648, 2147483688, 3, 0)]
def dc220 : ev_C := (54, [(0, 16, 0), (11, 0, 4294967295)])
def dn1890 : e2_Q1 := (dc35, dc220)
def dn1891 : e2_Q2 := (dn1890, dn64)
def dn1892 : e2_Q3 := (dn1891, dn68)
def dn1893 : e2_Q4 := (dn1892, dn76)
def dn1894 : e2_Q5 := (dn1893, dn92)
def dn1895 : e2_Q6 := (dn1894, dn1870)
def dn1896 : e2_Q7 := (dn1865, dn1895)
def dn1897 : e2_Q8 := (dn1896, dn1884)
noncomputable def f_d233 : ev_H := (dn1897 : e2_Q8)
noncomputable def q_d233_0 : ev_H := (dn1897 : e2_Q8)
noncomputable def rs_d233 : e2_Rs := [((9, 0, 0), q_d233_0)]
noncomputable def s_d233 : e2_Sm := (282, as_d233, E_d233, f_d233, rs_d233)
noncomputable def S_d233 : List e2_Sm := [s_d232]
noncomputable def I_d233 : List e2_In := [(217, 1, e2x_217), (275, 1, e2x_275)]
set_option maxRecDepth 1000000 in
theorem co_d233 : e2_okSB E_d233.length as_d233 f_d233 rs_d233 = true := by decide +kernel
def al_d233_0 : List ev_V := [(2, 83, 0), (11, 0, 4294967295), (11, 2147483648, 2147483664), (1, 4, 4294967296), (9, 0, 0)]
def E_d233_0 : e2_E := [(2147483648, 2147583648, 0, 0), (2147483648, 2147483656, 1, 0), (2147483648, 2147483688, 2, 0), (2147483648, 2147483688, 3, 0), (2147483648, 2147483664, 4, 0)]
noncomputable def h_d233_0 : ev_H := (dn1897 : e2_Q8)
def al_d233_1 : List ev_V := [(2, 83, 0), (11, 0, 4294967295), (11, 2147483648, 2147483664), (1, 4, 4294967296), (9, 0, 0)]
def E_d233_1 : e2_E := [(2147483648, 2147583648, 0, 0), (2147483648, 2147483656, 1, 0), (2147483648, 2147483688, 2, 0), (2147483648, 2147483688, 3, 0), (2147483648, 4294967295, 4, 0)]
noncomputable def h_d233_1 : ev_H := (dn1897 : e2_Q8)
def al_d233_2 : List ev_V := [(2, 83, 0), (11, 0, 4294967295), (11, 2147483648, 2147483664), (1, 4, 4294967296), (1, 5, 4294967296)]
def E_d233_2 : e2_E := [(2147483648, 2147583648, 0, 0), (2147483648, 2147483656, 1, 0), (2147483648, 2147483688, 2, 0), (2147483648, 2147483688, 3, 0), (2147483648, 4294967294, 4, 0), (2147483648, 2147483664, 5, 0)]
noncomputable def h_d233_2 : ev_H := (dn1897 : e2_Q8)
noncomputable def cl_d233_e : List (Nat × e2_S) := [(17, e2_cutL (al_d233_0.set 3 (11, 2147483648, 2147483664)) 4 (E_d233_0.take 4) h_d233_0)]
set_option maxRecDepth 1000000 in
theorem ck_d233_e : e2_run (e2_cal S_d233 I_d233 4000 2) (e2_fin rs_d233) e2x_282 (e2_bpL cl_d233_e) (e2_cutA cl_d233_e) 4000 (e2_seek e2x_282 0) (e2_al 5 as_d233) [] E_d233 f_d233 = true := by decide +kernel
noncomputable def cl_d233_0 : List (Nat × e2_S) := [(17, e2_cutL (al_d233_0.set 3 (13, 12, 2147483664)) 4 (E_d233_0.take 4) h_d233_0),
  (37, e2_cutL (al_d233_1.set 3 (11, 2147483648, 4294967295)) 4 (E_d233_1.take 4) h_d233_1)]
set_option maxRecDepth 1000000 in
theorem ck_d233_0 : e2_runM (e2_cal S_d233 I_d233 4000 2) (e2_fin rs_d233) e2x_282 (e2_bpL cl_d233_0) (e2_cutA cl_d233_0) 4000 (e2_seek e2x_282 17) al_d233_0 [] E_d233_0 h_d233_0 = true := by decide +kernel
set_option maxRecDepth 1000000 in
theorem ci_d233_0 : e2_idl 4 (al_d233_0.set 3 (9, 0, 0)) = true := by decide +kernel
set_option maxRecDepth 1000000 in
theorem cj_d233_0 : e2_idh 4 8 h_d233_0 = true := by decide +kernel
noncomputable def cl_d233_1 : List (Nat × e2_S) := [(37, e2_cutL (al_d233_1.set 3 (13, 12, 4294967295)) 4 (E_d233_1.take 4) h_d233_1),
  (69, e2_cutL (al_d233_2.set 4 (11, 2147483648, 2147483664)) 5 (E_d233_2.take 5) h_d233_2)]
set_option maxRecDepth 1000000 in
theorem ck_d233_1 : e2_runM (e2_cal S_d233 I_d233 4000 2) (e2_fin rs_d233) e2x_282 (e2_bpL cl_d233_1) (e2_cutA cl_d233_1) 4000 (e2_seek e2x_282 37) al_d233_1 [] E_d233_1 h_d233_1 = true := by decide +kernel
set_option maxRecDepth 1000000 in
theorem ci_d233_1 : e2_idl 4 (al_d233_1.set 3 (9, 0, 0)) = true := by decide +kernel
set_option maxRecDepth 1000000 in
theorem cj_d233_1 : e2_idh 4 8 h_d233_1 = true := by decide +kernel
noncomputable def cl_d233_2 : List (Nat × e2_S) := [(37, e2_cutL (al_d233_1.set 3 (13, 12, 4294967295)) 4 (E_d233_1.take 4) h_d233_1),
  (69, e2_cutL (al_d233_2.set 4 (13, 13, 2147483664)) 5 (E_d233_2.take 5) h_d233_2)]
set_option maxRecDepth 1000000 in
theorem ck_d233_2 : e2_runM (e2_cal S_d233 I_d233 4000 2) (e2_fin rs_d233) e2x_282 (e2_bpL cl_d233_2) (e2_cutA cl_d233_2) 4000 (e2_seek e2x_282 69) al_d233_2 [] E_d233_2 h_d233_2 = true := by decide +kernel
set_option maxRecDepth 1000000 in
theorem ci_d233_2 : e2_idl 5 (al_d233_2.set 4 (9, 0, 0)) = true := by decide +kernel
set_option maxRecDepth 1000000 in
theorem cj_d233_2 : e2_idh 5 8 h_d233_2 = true := by decide +kernel
theorem cs_d233 (hen : en_ok) (l : Launch) : e2_smOk l 4 s_d233 := by
  refine e2_conG (H := 1) (n := 2) (C := evd_282) (S := S_d233) (I := I_d233) (fuel := 4000) hen ei_282 (e2_fa (cs_d232 hen l) e2_fz) (e2_fa ein_217 (e2_fa ein_275 e2_fz)) (by decide) co_d233 fun M d _ hC hcall p e R s m args below meth c Q D cA A ads r0 ha hl0 => ?_
  have L_1 : e2_gdM M p l e R s m args below meth c Q D cA A ads r0 37 al_d233_1 [] E_d233_1 h_d233_1 := by
    refine e2_indL (u := 4) (j := 3) (lo := 2147483648) (hi := 4294967295) (b := 4) (dd := 0) hl0 (by decide) rfl rfl (Or.inr ⟨rfl, rfl⟩) rfl ci_d233_1 cj_d233_1 ?_
    intro r_1 k_1 hk_1 hp_1 hs_1 hn_1
    have hl_1 : r_1.length ≤ 5 := hs_1.len rfl
    have ha_1 := ha.ext hp_1
    have L_2 : e2_gdM M p l e R s m args below meth c Q D cA A ads r_1 69 al_d233_2 [] E_d233_2 h_d233_2 := by
      refine e2_indL (u := 5) (j := 4) (lo := 2147483648) (hi := 2147483664) (b := 5) (dd := 0) hl_1 (by decide) rfl rfl (Or.inr ⟨rfl, rfl⟩) rfl ci_d233_2 cj_d233_2 ?_
      intro r_2 k_2 hk_2 hp_2 hs_2 hn_2
      have hl_2 : r_2.length ≤ 6 := hs_2.len rfl
      have ha_2 := ha_1.ext hp_2
      exact e2_fromM hen ha_2 hcall (e2_cutA_ok (e2_fa (fun al st E h hc => (hn_1 al st E h hc).ext hp_2) (e2_fa (fun al st E h hc => hn_2 al st E h hc) e2_fz))) (hC []) (X := e2x_282) ex2_282 69 ck_d233_2
    have EN_2 := e2_entL (u := 5) (j := 4) (lo := 2147483648) (hi := 2147483664) hl_1 rfl rfl rfl ci_d233_2 cj_d233_2 L_2
    exact e2_fromM hen ha_1 hcall (e2_cutA_ok (e2_fa (fun al st E h hc => hn_1 al st E h hc) (e2_fa (fun al st E h hc => EN_2 al st E h hc) e2_fz))) (hC []) (X := e2x_282) ex2_282 37 ck_d233_1
  have EN_1 := e2_entL (u := 4) (j := 3) (lo := 2147483648) (hi := 4294967295) hl0 rfl rfl rfl ci_d233_1 cj_d233_1 L_1
  have L_0 : e2_gdM M p l e R s m args below meth c Q D cA A ads r0 17 al_d233_0 [] E_d233_0 h_d233_0 := by
    refine e2_indL (u := 4) (j := 3) (lo := 2147483648) (hi := 2147483664) (b := 4) (dd := 0) hl0 (by decide) rfl rfl (Or.inr ⟨rfl, rfl⟩) rfl ci_d233_0 cj_d233_0 ?_
    intro r_0 k_0 hk_0 hp_0 hs_0 hn_0
    have hl_0 : r_0.length ≤ 5 := hs_0.len rfl
    have ha_0 := ha.ext hp_0
    exact e2_fromM hen ha_0 hcall (e2_cutA_ok (e2_fa (fun al st E h hc => hn_0 al st E h hc) (e2_fa (fun al st E h hc => (EN_1 al st E h hc).ext hp_0) e2_fz))) (hC []) (X := e2x_282) ex2_282 17 ck_d233_0
  have EN_0 := e2_entL (u := 4) (j := 3) (lo := 2147483648) (hi := 2147483664) hl0 rfl rfl rfl ci_d233_0 cj_d233_0 L_0
  exact e2_from hen ha hcall (e2_cutA_ok (e2_fa (fun al st E h hc => EN_0 al st E h hc) e2_fz)) (hC []) (X := e2x_282) ex2_282 0 ck_d233_e
/-! d234 X10_fit -/
def as_d234 : List ev_V := [(2, 83, 0), (11, 0, 4294967295)]
def E_d234 : e2_E := [(2147483648, 2147583648, 0, 0), (2147483648, 2147483656, 1, 0), (2147483648, 2147483688, 2, 0), (2147483648, 2147483688, 3, 0)]
noncomputable def f_d234 : ev_H := (dn1897 : e2_Q8)
noncomputable def q_d234_0 : ev_H := (dn1897 : e2_Q8)
noncomputable def rs_d234 : e2_Rs := [((11, 0, 4294967295), q_d234_0)]
noncomputable def s_d234 : e2_Sm := (283, as_d234, E_d234, f_d234, rs_d234)
noncomputable def S_d234 : List e2_Sm := [s_d233]
noncomputable def I_d234 : List e2_In := []
set_option maxRecDepth 1000000 in
theorem ck_d234 : e2_run (e2_cal S_d234 I_d234 4000 0) (e2_fin rs_d234) e2x_283 (fun _ => false) (fun _ _ _ _ _ => false) 4000 (e2_seek e2x_283 0) (e2_al 2 as_d234) [] E_d234 f_d234 = true := by decide +kernel
set_option maxRecDepth 1000000 in
theorem co_d234 : e2_okSB E_d234.length as_d234 f_d234 rs_d234 = true := by decide +kernel
theorem cs_d234 (hen : en_ok) (l : Launch) : e2_smOk l 5 s_d234 := e2_con0 (H := 4) (n := 0) (C := evd_283) (S := S_d234) (I := I_d234) (fuel := 4000) [] hen ei_283 (e2_fa (cs_d233 hen l) e2_fz) e2_fz (by decide) co_d234 ex2_283 ck_d234
