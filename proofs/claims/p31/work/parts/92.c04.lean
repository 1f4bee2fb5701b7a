/-! CONTRACTS c, printed by a program -/
/-! c230 X4_worstReply -/
def as_c230 : List ev_V := [(2, 59, 0), (11, 2147483648, 2147483651), (11, 0, 4294967295), (11, 0, 4294967295)]
def E_c230 : e2_E := [(2147483648, 2147583648, 0, 0), (2147483652, 2147483668, 1, 0)]
noncomputable def f_c230 : ev_H := (cn877 : e2_Q8)
noncomputable def q_c230_0 : ev_H := (cn877 : e2_Q8)
noncomputable def rs_c230 : e2_Rs := [((11, 2147483647, 2147483667), q_c230_0)]
noncomputable def s_c230 : e2_Sm := (85, as_c230, E_c230, f_c230, rs_c230)
noncomputable def S_c230 : List e2_Sm := [s_c195]
noncomputable def I_c230 : List e2_In := [(159, 2, e2x_159)]
set_option maxRecDepth 1000000 in
theorem co_c230 : e2_okSB E_c230.length as_c230 f_c230 rs_c230 = true := by decide +kernel
def al_c230_0 : List ev_V := [(2, 59, 0), (11, 2147483648, 2147483651), (11, 0, 4294967295), (11, 0, 4294967295), (11, 2147483647, 2147483667), (11, 0, 4294967295), (1, 2, 4294967296), (9, 0, 0)]
def E_c230_0 : e2_E := [(2147483648, 2147583648, 0, 0), (2147483652, 2147483668, 1, 0), (2147483648, 2147483668, 2, 0)]
noncomputable def h_c230_0 : ev_H := (cn877 : e2_Q8)
noncomputable def cl_c230_e : List (Nat × e2_S) := [(9, e2_cutL (al_c230_0.set 6 (11, 2147483648, 2147483668)) 2 (E_c230_0.take 2) h_c230_0)]
set_option maxRecDepth 1000000 in
theorem ck_c230_e : e2_run (e2_cal S_c230 I_c230 4000 1) (e2_fin rs_c230) e2x_85 (e2_bpL cl_c230_e) (e2_cutA cl_c230_e) 4000 (e2_seek e2x_85 0) (e2_al 8 as_c230) [] E_c230 f_c230 = true := by decide +kernel
noncomputable def cl_c230_0 : List (Nat × e2_S) := [(9, e2_cutL (al_c230_0.set 6 (13, 10, 2147483668)) 2 (E_c230_0.take 2) h_c230_0)]
set_option maxRecDepth 1000000 in
theorem ck_c230_0 : e2_runM (e2_cal S_c230 I_c230 4000 1) (e2_fin rs_c230) e2x_85 (e2_bpL cl_c230_0) (e2_cutA cl_c230_0) 4000 (e2_seek e2x_85 9) al_c230_0 [] E_c230_0 h_c230_0 = true := by decide +kernel
set_option maxRecDepth 1000000 in
theorem ci_c230_0 : e2_idl 2 (al_c230_0.set 6 (9, 0, 0)) = true := by decide +kernel
set_option maxRecDepth 1000000 in
theorem cj_c230_0 : e2_idh 2 8 h_c230_0 = true := by decide +kernel
theorem cs_c230 (hen : en_ok) (l : Launch) (hh : e2_hand_c l) : e2_smOk l 63 s_c230 := by
  refine e2_conG (H := 61) (n := 1) (C := evd_85) (S := S_c230) (I := I_c230) (fuel := 4000) hen ei_85 (e2_fa (cs_c195 hen l hh) e2_fz) (e2_fa ein_159 e2_fz) (by decide) co_c230 fun M d _ hC hcall p e R s m args below meth c Q D cA A ads r0 ha hl0 => ?_
  have L_0 : e2_gdM M p l e R s m args below meth c Q D cA A ads r0 9 al_c230_0 [] E_c230_0 h_c230_0 := by
    refine e2_indL (u := 2) (j := 6) (lo := 2147483648) (hi := 2147483668) (b := 2) (dd := 0) hl0 (by decide) rfl rfl (Or.inr ⟨rfl, rfl⟩) rfl ci_c230_0 cj_c230_0 ?_
    intro r_0 k_0 hk_0 hp_0 hs_0 hn_0
    have hl_0 : r_0.length ≤ 3 := hs_0.len rfl
    have ha_0 := ha.ext hp_0
    exact e2_fromM hen ha_0 hcall (e2_cutA_ok (e2_fa (fun al st E h hc => hn_0 al st E h hc) e2_fz)) (hC []) (X := e2x_85) ex2_85 9 ck_c230_0
  have EN_0 := e2_entL (u := 2) (j := 6) (lo := 2147483648) (hi := 2147483668) hl0 rfl rfl rfl ci_c230_0 cj_c230_0 L_0
  exact e2_from hen ha hcall (e2_cutA_ok (e2_fa (fun al st E h hc => EN_0 al st E h hc) e2_fz)) (hC []) (X := e2x_85) ex2_85 0 ck_c230_e
/-! c231 X4_worstReply -/
def as_c231 : List ev_V := [(2, 59, 0), (11, 2147483648, 2147483651), (11, 0, 4294967295), (11, 0, 4294967295)]
def E_c231 : e2_E := [(2147483648, 2147583648, 0, 0), (2147483652, 2147483668, 1, 0)]
noncomputable def f_c231 : ev_H := (cn872 : e2_Q8)
noncomputable def q_c231_0 : ev_H := (cn877 : e2_Q8)
noncomputable def q_c231_1 : ev_H := (cn872 : e2_Q8)
noncomputable def rs_c231 : e2_Rs := [((11, 2147483648, 2147483667), q_c231_0), ((0, 4294967295, 0), q_c231_1)]
noncomputable def s_c231 : e2_Sm := (85, as_c231, E_c231, f_c231, rs_c231)
noncomputable def S_c231 : List e2_Sm := [s_c194, s_c195]
noncomputable def I_c231 : List e2_In := [(159, 2, e2x_159)]
set_option maxRecDepth 1000000 in
theorem co_c231 : e2_okSB E_c231.length as_c231 f_c231 rs_c231 = true := by decide +kernel
def al_c231_0 : List ev_V := [(2, 59, 0), (11, 2147483648, 2147483651), (11, 0, 4294967295), (11, 0, 4294967295), (11, 2147483648, 2147483667), (11, 0, 4294967295), (1, 2, 4294967296), (11, 0, 4294967295)]
def E_c231_0 : e2_E := [(2147483648, 2147583648, 0, 0), (2147483652, 2147483668, 1, 0), (2147483649, 2147483668, 2, 0)]
noncomputable def h_c231_0 : ev_H := (cn877 : e2_Q8)
def al_c231_1 : List ev_V := [(2, 59, 0), (11, 2147483648, 2147483651), (11, 0, 4294967295), (11, 0, 4294967295), (0, 4294967295, 0), (0, 0, 0), (1, 2, 4294967296), (9, 0, 0)]
def E_c231_1 : e2_E := [(2147483648, 2147583648, 0, 0), (2147483652, 2147483668, 1, 0), (2147483648, 2147483668, 2, 0)]
noncomputable def h_c231_1 : ev_H := (cn872 : e2_Q8)
noncomputable def cl_c231_e : List (Nat × e2_S) := [(9, e2_cutL (al_c231_1.set 6 (11, 2147483648, 2147483668)) 2 (E_c231_1.take 2) h_c231_1)]
set_option maxRecDepth 1000000 in
theorem ck_c231_e : e2_run (e2_cal S_c231 I_c231 4000 1) (e2_fin rs_c231) e2x_85 (e2_bpL cl_c231_e) (e2_cutA cl_c231_e) 4000 (e2_seek e2x_85 0) (e2_al 8 as_c231) [] E_c231 f_c231 = true := by decide +kernel
noncomputable def cl_c231_0 : List (Nat × e2_S) := [(9, e2_cutL (al_c231_0.set 6 (13, 10, 2147483668)) 2 (E_c231_0.take 2) h_c231_0)]
set_option maxRecDepth 1000000 in
theorem ck_c231_0 : e2_runM (e2_cal S_c231 I_c231 4000 1) (e2_fin rs_c231) e2x_85 (e2_bpL cl_c231_0) (e2_cutA cl_c231_0) 4000 (e2_seek e2x_85 9) al_c231_0 [] E_c231_0 h_c231_0 = true := by decide +kernel
set_option maxRecDepth 1000000 in
theorem ci_c231_0 : e2_idl 2 (al_c231_0.set 6 (9, 0, 0)) = true := by decide +kernel
set_option maxRecDepth 1000000 in
theorem cj_c231_0 : e2_idh 2 8 h_c231_0 = true := by decide +kernel
noncomputable def cl_c231_1 : List (Nat × e2_S) := [(9, e2_cutL (al_c231_0.set 6 (11, 2147483649, 2147483668)) 2 (E_c231_0.take 2) h_c231_0),
  (9, e2_cutL (al_c231_1.set 6 (13, 10, 2147483668)) 2 (E_c231_1.take 2) h_c231_1)]
set_option maxRecDepth 1000000 in
theorem ck_c231_1 : e2_runM (e2_cal S_c231 I_c231 4000 1) (e2_fin rs_c231) e2x_85 (e2_bpL cl_c231_1) (e2_cutA cl_c231_1) 4000 (e2_seek e2x_85 9) al_c231_1 [] E_c231_1 h_c231_1 = true := by decide +kernel
set_option maxRecDepth 1000000 in
theorem ci_c231_1 : e2_idl 2 (al_c231_1.set 6 (9, 0, 0)) = true := by decide +kernel
set_option maxRecDepth 1000000 in
theorem cj_c231_1 : e2_idh 2 8 h_c231_1 = true := by decide +kernel
theorem cs_c231 (hen : en_ok) (l : Launch) (hh : e2_hand_c l) : e2_smOk l 63 s_c231 := by
  refine e2_conG (H := 61) (n := 1) (C := evd_85) (S := S_c231) (I := I_c231) (fuel := 4000) hen ei_85 (e2_fa (cs_c194 hen l hh) (e2_fa (cs_c195 hen l hh) e2_fz)) (e2_fa ein_159 e2_fz) (by decide) co_c231 fun M d _ hC hcall p e R s m args below meth c Q D cA A ads r0 ha hl0 => ?_
  have L_0 : e2_gdM M p l e R s m args below meth c Q D cA A ads r0 9 al_c231_0 [] E_c231_0 h_c231_0 := by
    refine e2_indL (u := 2) (j := 6) (lo := 2147483649) (hi := 2147483668) (b := 2) (dd := 0) hl0 (by decide) rfl rfl (Or.inr ⟨rfl, rfl⟩) rfl ci_c231_0 cj_c231_0 ?_
    intro r_0 k_0 hk_0 hp_0 hs_0 hn_0
    have hl_0 : r_0.length ≤ 3 := hs_0.len rfl
    have ha_0 := ha.ext hp_0
    exact e2_fromM hen ha_0 hcall (e2_cutA_ok (e2_fa (fun al st E h hc => hn_0 al st E h hc) e2_fz)) (hC []) (X := e2x_85) ex2_85 9 ck_c231_0
  have EN_0 := e2_entL (u := 2) (j := 6) (lo := 2147483649) (hi := 2147483668) hl0 rfl rfl rfl ci_c231_0 cj_c231_0 L_0
  have L_1 : e2_gdM M p l e R s m args below meth c Q D cA A ads r0 9 al_c231_1 [] E_c231_1 h_c231_1 := by
    refine e2_indL (u := 2) (j := 6) (lo := 2147483648) (hi := 2147483668) (b := 2) (dd := 0) hl0 (by decide) rfl rfl (Or.inr ⟨rfl, rfl⟩) rfl ci_c231_1 cj_c231_1 ?_
    intro r_1 k_1 hk_1 hp_1 hs_1 hn_1
    have hl_1 : r_1.length ≤ 3 := hs_1.len rfl
    have ha_1 := ha.ext hp_1
    exact e2_fromM hen ha_1 hcall (e2_cutA_ok (e2_fa (fun al st E h hc => (EN_0 al st E h hc).ext hp_1) (e2_fa (fun al st E h hc => hn_1 al st E h hc) e2_fz))) (hC []) (X := e2x_85) ex2_85 9 ck_c231_1
  have EN_1 := e2_entL (u := 2) (j := 6) (lo := 2147483648) (hi := 2147483668) hl0 rfl rfl rfl ci_c231_1 cj_c231_1 L_1
  exact e2_from hen ha hcall (e2_cutA_ok (e2_fa (fun al st E h hc => EN_1 al st E h hc) e2_fz)) (hC []) (X := e2x_85) ex2_85 0 ck_c231_e
/-! c232 X4_fight -/
def as_c232 : List ev_V := [(2, 59, 0), (11, 2147483648, 2147483651), (11, 0, 4294967295), (11, 0, 4294967295), (11, 2147483648, 2147483650)]
def E_c232 : e2_E := [(2147483648, 2147583648, 0, 0), (2147483652, 2147483668, 1, 0)]
noncomputable def f_c232 : ev_H := (cn872 : e2_Q8)
noncomputable def q_c232_0 : ev_H := (cn877 : e2_Q8)
noncomputable def q_c232_1 : ev_H := (cn872 : e2_Q8)
noncomputable def rs_c232 : e2_Rs := [((11, 0, 4294967295), q_c232_0), ((11, 2147483647, 2147483648), q_c232_1)]
noncomputable def s_c232 : e2_Sm := (84, as_c232, E_c232, f_c232, rs_c232)
noncomputable def S_c232 : List e2_Sm := [s_c194, s_c195, s_c230, s_c231]
noncomputable def I_c232 : List e2_In := [(159, 2, e2x_159)]
set_option maxRecDepth 1000000 in
theorem co_c232 : e2_okSB E_c232.length as_c232 f_c232 rs_c232 = true := by decide +kernel
def al_c232_0 : List ev_V := [(2, 59, 0), (11, 2147483648, 2147483651), (11, 0, 4294967295), (11, 0, 4294967295), (11, 2147483648, 2147483650), (11, 2147483648, 2147483667), (11, 2147483647, 2147483667), (11, 0, 4294967295), (1, 2, 4294967296), (11, 2147483647, 2147483667), (11, 0, 4294967295)]
def E_c232_0 : e2_E := [(2147483648, 2147583648, 0, 0), (2147483652, 2147483668, 1, 0), (2147483649, 2147483668, 2, 0)]
noncomputable def h_c232_0 : ev_H := (cn877 : e2_Q8)
def al_c232_1 : List ev_V := [(2, 59, 0), (11, 2147483648, 2147483651), (11, 0, 4294967295), (11, 0, 4294967295), (11, 2147483648, 2147483650), (0, 4294967295, 0), (0, 4294967295, 0), (0, 0, 0), (1, 2, 4294967296), (9, 0, 0), (9, 0, 0)]
def E_c232_1 : e2_E := [(2147483648, 2147583648, 0, 0), (2147483652, 2147483668, 1, 0), (2147483648, 2147483668, 2, 0)]
noncomputable def h_c232_1 : ev_H := (cn872 : e2_Q8)
noncomputable def cl_c232_e : List (Nat × e2_S) := [(12, e2_cutL (al_c232_1.set 8 (11, 2147483648, 2147483668)) 2 (E_c232_1.take 2) h_c232_1)]
set_option maxRecDepth 1000000 in
theorem ck_c232_e : e2_run (e2_cal S_c232 I_c232 4000 1) (e2_fin rs_c232) e2x_84 (e2_bpL cl_c232_e) (e2_cutA cl_c232_e) 4000 (e2_seek e2x_84 0) (e2_al 11 as_c232) [] E_c232 f_c232 = true := by decide +kernel
noncomputable def cl_c232_0 : List (Nat × e2_S) := [(12, e2_cutL (al_c232_0.set 8 (13, 10, 2147483668)) 2 (E_c232_0.take 2) h_c232_0)]
set_option maxRecDepth 1000000 in
theorem ck_c232_0 : e2_runM (e2_cal S_c232 I_c232 4000 1) (e2_fin rs_c232) e2x_84 (e2_bpL cl_c232_0) (e2_cutA cl_c232_0) 4000 (e2_seek e2x_84 12) al_c232_0 [] E_c232_0 h_c232_0 = true := by decide +kernel
set_option maxRecDepth 1000000 in
theorem ci_c232_0 : e2_idl 2 (al_c232_0.set 8 (9, 0, 0)) = true := by decide +kernel
set_option maxRecDepth 1000000 in
theorem cj_c232_0 : e2_idh 2 8 h_c232_0 = true := by decide +kernel
noncomputable def cl_c232_1 : List (Nat × e2_S) := [(12, e2_cutL (al_c232_0.set 8 (11, 2147483649, 2147483668)) 2 (E_c232_0.take 2) h_c232_0),
  (12, e2_cutL (al_c232_1.set 8 (13, 10, 2147483668)) 2 (E_c232_1.take 2) h_c232_1)]
set_option maxRecDepth 1000000 in
theorem ck_c232_1 : e2_runM (e2_cal S_c232 I_c232 4000 1) (e2_fin rs_c232) e2x_84 (e2_bpL cl_c232_1) (e2_cutA cl_c232_1) 4000 (e2_seek e2x_84 12) al_c232_1 [] E_c232_1 h_c232_1 = true := by decide +kernel
set_option maxRecDepth 1000000 in
theorem ci_c232_1 : e2_idl 2 (al_c232_1.set 8 (9, 0, 0)) = true := by decide +kernel
set_option maxRecDepth 1000000 in
theorem cj_c232_1 : e2_idh 2 8 h_c232_1 = true := by decide +kernel
theorem cs_c232 (hen : en_ok) (l : Launch) (hh : e2_hand_c l) : e2_smOk l 65 s_c232 := by
  refine e2_conG (H := 63) (n := 1) (C := evd_84) (S := S_c232) (I := I_c232) (fuel := 4000) hen ei_84 (e2_fa ((cs_c194 hen l hh).mono (by decide)) (e2_fa ((cs_c195 hen l hh).mono (by decide)) (e2_fa (cs_c230 hen l hh) (e2_fa (cs_c231 hen l hh) e2_fz)))) (e2_fa ein_159 e2_fz) (by decide) co_c232 fun M d _ hC hcall p e R s m args below meth c Q D cA A ads r0 ha hl0 => ?_
  have L_0 : e2_gdM M p l e R s m args below meth c Q D cA A ads r0 12 al_c232_0 [] E_c232_0 h_c232_0 := by
    refine e2_indL (u := 2) (j := 8) (lo := 2147483649) (hi := 2147483668) (b := 2) (dd := 0) hl0 (by decide) rfl rfl (Or.inr ⟨rfl, rfl⟩) rfl ci_c232_0 cj_c232_0 ?_
    intro r_0 k_0 hk_0 hp_0 hs_0 hn_0
    have hl_0 : r_0.length ≤ 3 := hs_0.len rfl
    have ha_0 := ha.ext hp_0
    exact e2_fromM hen ha_0 hcall (e2_cutA_ok (e2_fa (fun al st E h hc => hn_0 al st E h hc) e2_fz)) (hC []) (X := e2x_84) ex2_84 12 ck_c232_0
  have EN_0 := e2_entL (u := 2) (j := 8) (lo := 2147483649) (hi := 2147483668) hl0 rfl rfl rfl ci_c232_0 cj_c232_0 L_0
  have L_1 : e2_gdM M p l e R s m args below meth c Q D cA A ads r0 12 al_c232_1 [] E_c232_1 h_c232_1 := by
    refine e2_indL (u := 2) (j := 8) (lo := 2147483648) (hi := 2147483668) (b := 2) (dd := 0) hl0 (by decide) rfl rfl (Or.inr ⟨rfl, rfl⟩) rfl ci_c232_1 cj_c232_1 ?_
    intro r_1 k_1 hk_1 hp_1 hs_1 hn_1
    have hl_1 : r_1.length ≤ 3 := hs_1.len rfl
    have ha_1 := ha.ext hp_1
    exact e2_fromM hen ha_1 hcall (e2_cutA_ok (e2_fa (fun al st E h hc => (EN_0 al st E h hc).ext hp_1) (e2_fa (fun al st E h hc => hn_1 al st E h hc) e2_fz))) (hC []) (X := e2x_84) ex2_84 12 ck_c232_1
  have EN_1 := e2_entL (u := 2) (j := 8) (lo := 2147483648) (hi := 2147483668) hl0 rfl rfl rfl ci_c232_1 cj_c232_1 L_1
  exact e2_from hen ha hcall (e2_cutA_ok (e2_fa (fun al st E h hc => EN_1 al st E h hc) e2_fz)) (hC []) (X := e2x_84) ex2_84 0 ck_c232_e
/-! c233 X5_weighEverywhere -/
def as_c233 : List ev_V := [(2, 47, 0), (11, 2147483648, 2147483655), (11, 0, 4294967295)]
def E_c233 : e2_E := [(2147483648, 2147583648, 0, 0), (2147483652, 2147483668, 1, 0)]
def cn1035 : e2_Q5 := (cn281, cn29)
def cn1036 : e2_Q4 := (cn289, cn44)
def cn1037 : e2_Q5 := (cn1036, cn483)
def cn1038 : e2_Q6 := (cn1035, cn1037)
def cn1039 : e2_Q5 := (cn302, cn92)
def cn1040 : e2_Q6 := (cn1039, cn694)
def cn1041 : e2_Q7 := (cn1038, cn1040)
def cn1042 : e2_Q3 := (cn321, cn488)
def cn1043 : e2_Q4 := (cn133, cn1042)
def cn1044 : e2_Q5 := (cn1043, cn156)
def cn1045 : e2_Q5 := (cn337, cn495)
def cn1046 : e2_Q6 := (cn1044, cn1045)
def cn1047 : e2_Q5 := (cn342, cn501)
def cn1048 : e2_Q5 := (cn419, cn352)
def cn1049 : e2_Q6 := (cn1047, cn1048)
def cn1050 : e2_Q7 := (cn1046, cn1049)
def cn1051 : e2_Q8 := (cn1041, cn1050)
noncomputable def f_c233 : ev_H := (cn1051 : e2_Q8)
noncomputable def q_c233_0 : ev_H := (cn1051 : e2_Q8)
noncomputable def rs_c233 : e2_Rs := [((9, 0, 0), q_c233_0)]
noncomputable def s_c233 : e2_Sm := (87, as_c233, E_c233, f_c233, rs_c233)
noncomputable def S_c233 : List e2_Sm := [s_c10]
noncomputable def I_c233 : List e2_In := [(121, 5, e2x_121), (160, 2, e2x_160)]
set_option maxRecDepth 1000000 in
theorem co_c233 : e2_okSB E_c233.length as_c233 f_c233 rs_c233 = true := by decide +kernel
def al_c233_0 : List ev_V := [(2, 47, 0), (11, 2147483648, 2147483655), (11, 0, 4294967295), (1, 2, 4294967296)]
def E_c233_0 : e2_E := [(2147483648, 2147583648, 0, 0), (2147483652, 2147483668, 1, 0), (2147483648, 2147483668, 2, 0)]
noncomputable def h_c233_0 : ev_H := (cn1051 : e2_Q8)
noncomputable def cl_c233_e : List (Nat × e2_S) := [(2, e2_cutL (al_c233_0.set 3 (11, 2147483648, 2147483668)) 2 (E_c233_0.take 2) h_c233_0)]
set_option maxRecDepth 1000000 in
theorem ck_c233_e : e2_run (e2_cal S_c233 I_c233 4000 1) (e2_fin rs_c233) e2x_87 (e2_bpL cl_c233_e) (e2_cutA cl_c233_e) 4000 (e2_seek e2x_87 0) (e2_al 4 as_c233) [] E_c233 f_c233 = true := by decide +kernel
noncomputable def cl_c233_0 : List (Nat × e2_S) := [(2, e2_cutL (al_c233_0.set 3 (13, 10, 2147483668)) 2 (E_c233_0.take 2) h_c233_0)]
set_option maxRecDepth 1000000 in
theorem ck_c233_0 : e2_runM (e2_cal S_c233 I_c233 4000 1) (e2_fin rs_c233) e2x_87 (e2_bpL cl_c233_0) (e2_cutA cl_c233_0) 4000 (e2_seek e2x_87 2) al_c233_0 [] E_c233_0 h_c233_0 = true := by decide +kernel
set_option maxRecDepth 1000000 in
theorem ci_c233_0 : e2_idl 2 (al_c233_0.set 3 (9, 0, 0)) = true := by decide +kernel
set_option maxRecDepth 1000000 in
theorem cj_c233_0 : e2_idh 2 8 h_c233_0 = true := by decide +kernel
theorem cs_c233 (hen : en_ok) (l : Launch) : e2_smOk l 4 s_c233 := by
  refine e2_conG (H := 2) (n := 1) (C := evd_87) (S := S_c233) (I := I_c233) (fuel := 4000) hen ei_87 (e2_fa (cs_c10 hen l) e2_fz) (e2_fa ein_121 (e2_fa ein_160 e2_fz)) (by decide) co_c233 fun M d _ hC hcall p e R s m args below meth c Q D cA A ads r0 ha hl0 => ?_
  have L_0 : e2_gdM M p l e R s m args below meth c Q D cA A ads r0 2 al_c233_0 [] E_c233_0 h_c233_0 := by
    refine e2_indL (u := 2) (j := 3) (lo := 2147483648) (hi := 2147483668) (b := 2) (dd := 0) hl0 (by decide) rfl rfl (Or.inr ⟨rfl, rfl⟩) rfl ci_c233_0 cj_c233_0 ?_
    intro r_0 k_0 hk_0 hp_0 hs_0 hn_0
    have hl_0 : r_0.length ≤ 3 := hs_0.len rfl
    have ha_0 := ha.ext hp_0
    exact e2_fromM hen ha_0 hcall (e2_cutA_ok (e2_fa (fun al st E h hc => hn_0 al st E h hc) e2_fz)) (hC []) (X := e2x_87) ex2_87 2 ck_c233_0
  have EN_0 := e2_entL (u := 2) (j := 3) (lo := 2147483648) (hi := 2147483668) hl0 rfl rfl rfl ci_c233_0 cj_c233_0 L_0
  exact e2_from hen ha hcall (e2_cutA_ok (e2_fa (fun al st E h hc => EN_0 al st E h hc) e2_fz)) (hC []) (X := e2x_87) ex2_87 0 ck_c233_e
/-! c234 X5_begin -/
def as_c234 : List ev_V := [(2, 47, 0), (2, 17, 0), (2, 36, 0), (11, 0, 4294967295)]
def E_c234 : e2_E := [(2147483648, 2147583648, 0, 0), (2147483652, 2147483668, 1, 0)]
def cn1052 : e2_Q4 := (cn792, cn292)
def cn1053 : e2_Q5 := (cn1052, cn483)
def cn1054 : e2_Q6 := (cn1035, cn1053)
def cn1055 : e2_Q4 := (cn298, cn391)
def cn1056 : e2_Q5 := (cn1055, cn92)
def cn1057 : e2_Q6 := (cn1056, cn317)
def cn1058 : e2_Q7 := (cn1054, cn1057)
def cn1059 : e2_Q4 := (cn804, cn336)
def cn1060 : e2_Q5 := (cn1059, cn495)
def cn1061 : e2_Q6 := (cn1044, cn1060)
def cc196 : ev_C := (5, [(2, 50, 0), (11, 0, 4294967295), (2, 51, 0), (2, 54, 0), (7, 0, 0), (2, 52, 0), (11, 2147483648, 2147483649), (2, 49, 0), (11, 2147483648, 2147483668), (2, 53, 0), (2, 48, 0), (2, 55, 0), (2, 56, 0), (2, 57, 0), (2, 58, 0)])
def cn1062 : e2_Q1 := (cc196, cc3)
def cn1063 : e2_Q2 := (cn1062, cn240)
def cn1064 : e2_Q3 := (cn238, cn1063)
def cn1065 : e2_Q4 := (cn1064, cn249)
def cn1066 : e2_Q5 := (cn812, cn1065)
def cn1067 : e2_Q6 := (cn1047, cn1066)
def cn1068 : e2_Q7 := (cn1061, cn1067)
def cn1069 : e2_Q8 := (cn1058, cn1068)
noncomputable def f_c234 : ev_H := (cn1069 : e2_Q8)
def cn1070 : e2_Q6 := (cn1039, cn317)
def cn1071 : e2_Q7 := (cn1054, cn1070)
def cn1072 : e2_Q5 := (cn812, cn352)
def cn1073 : e2_Q6 := (cn1047, cn1072)
def cn1074 : e2_Q7 := (cn1061, cn1073)
def cn1075 : e2_Q8 := (cn1071, cn1074)
noncomputable def q_c234_0 : ev_H := (cn1075 : e2_Q8)
noncomputable def rs_c234 : e2_Rs := [((9, 0, 0), q_c234_0)]
noncomputable def s_c234 : e2_Sm := (86, as_c234, E_c234, f_c234, rs_c234)
noncomputable def S_c234 : List e2_Sm := [s_c233]
noncomputable def I_c234 : List e2_In := []
set_option maxRecDepth 1000000 in
theorem co_c234 : e2_okSB E_c234.length as_c234 f_c234 rs_c234 = true := by decide +kernel
def al_c234_0 : List ev_V := [(2, 47, 0), (2, 17, 0), (2, 36, 0), (11, 0, 4294967295), (1, 1, 4294967296), (1, 2, 4294967296)]
def E_c234_0 : e2_E := [(2147483648, 2147583648, 0, 0), (2147483652, 2147483668, 1, 0), (2147483648, 2147483656, 2, 0)]
noncomputable def h_c234_0 : ev_H := (cn1075 : e2_Q8)
noncomputable def cl_c234_e : List (Nat × e2_S) := [(74, e2_cutL (al_c234_0.set 5 (11, 2147483648, 2147483656)) 2 (E_c234_0.take 2) h_c234_0)]
set_option maxRecDepth 1000000 in
theorem ck_c234_e : e2_run (e2_cal S_c234 I_c234 4000 0) (e2_fin rs_c234) e2x_86 (e2_bpL cl_c234_e) (e2_cutA cl_c234_e) 4000 (e2_seek e2x_86 0) (e2_al 6 as_c234) [] E_c234 f_c234 = true := by decide +kernel
noncomputable def cl_c234_0 : List (Nat × e2_S) := [(74, e2_cutL (al_c234_0.set 5 (13, 10, 2147483656)) 2 (E_c234_0.take 2) h_c234_0)]
set_option maxRecDepth 1000000 in
theorem ck_c234_0 : e2_runM (e2_cal S_c234 I_c234 4000 0) (e2_fin rs_c234) e2x_86 (e2_bpL cl_c234_0) (e2_cutA cl_c234_0) 4000 (e2_seek e2x_86 74) al_c234_0 [] E_c234_0 h_c234_0 = true := by decide +kernel
set_option maxRecDepth 1000000 in
theorem ci_c234_0 : e2_idl 2 (al_c234_0.set 5 (9, 0, 0)) = true := by decide +kernel
set_option maxRecDepth 1000000 in
theorem cj_c234_0 : e2_idh 2 8 h_c234_0 = true := by decide +kernel
theorem cs_c234 (hen : en_ok) (l : Launch) : e2_smOk l 5 s_c234 := by
  refine e2_conG (H := 4) (n := 0) (C := evd_86) (S := S_c234) (I := I_c234) (fuel := 4000) hen ei_86 (e2_fa (cs_c233 hen l) e2_fz) e2_fz (by decide) co_c234 fun M d _ hC hcall p e R s m args below meth c Q D cA A ads r0 ha hl0 => ?_
  have L_0 : e2_gdM M p l e R s m args below meth c Q D cA A ads r0 74 al_c234_0 [] E_c234_0 h_c234_0 := by
    refine e2_indL (u := 2) (j := 5) (lo := 2147483648) (hi := 2147483656) (b := 2) (dd := 0) hl0 (by decide) rfl rfl (Or.inr ⟨rfl, rfl⟩) rfl ci_c234_0 cj_c234_0 ?_
    intro r_0 k_0 hk_0 hp_0 hs_0 hn_0
    have hl_0 : r_0.length ≤ 3 := hs_0.len rfl
    have ha_0 := ha.ext hp_0
    exact e2_fromM hen ha_0 hcall (e2_cutA_ok (e2_fa (fun al st E h hc => hn_0 al st E h hc) e2_fz)) (hC []) (X := e2x_86) ex2_86 74 ck_c234_0
  have EN_0 := e2_entL (u := 2) (j := 5) (lo := 2147483648) (hi := 2147483656) hl0 rfl rfl rfl ci_c234_0 cj_c234_0 L_0
  exact e2_from hen ha hcall (e2_cutA_ok (e2_fa (fun al st E h hc => EN_0 al st E h hc) e2_fz)) (hC []) (X := e2x_86) ex2_86 0 ck_c234_e
/-! c235 X5_begin -/
def as_c235 : List ev_V := [(2, 47, 0), (2, 17, 0), (2, 40, 0), (11, 0, 4294967295)]
def E_c235 : e2_E := [(2147483648, 2147583648, 0, 0), (2147483652, 2147483668, 1, 0)]
def cc197 : ev_C := (6, [(11, 0, 4294967295), (11, 0, 4294967295), (11, 0, 4294967295), (2, 42, 0), (2, 41, 0), (2, 43, 0)])
def cn1076 : e2_Q1 := (cc197, cc3)
def cn1077 : e2_Q2 := (cn1076, cn19)
def cn1078 : e2_Q3 := (cn17, cn1077)
def cn1079 : e2_Q4 := (cn1078, cn28)
def cn1080 : e2_Q5 := (cn281, cn1079)
def cn1081 : e2_Q5 := (cn293, cn483)
def cn1082 : e2_Q6 := (cn1080, cn1081)
def cn1083 : e2_Q7 := (cn1082, cn1057)
def cn1084 : e2_Q2 := (cn464, cn146)
def cn1085 : e2_Q3 := (cn144, cn1084)
def cn1086 : e2_Q4 := (cn1085, cn155)
def cn1087 : e2_Q5 := (cn1043, cn1086)
def cn1088 : e2_Q6 := (cn1087, cn1045)
def cn1089 : e2_Q7 := (cn1088, cn1067)
def cn1090 : e2_Q8 := (cn1083, cn1089)
noncomputable def f_c235 : ev_H := (cn1090 : e2_Q8)
def cn1091 : e2_Q7 := (cn1082, cn1070)
def cn1092 : e2_Q7 := (cn1088, cn1073)
def cn1093 : e2_Q8 := (cn1091, cn1092)
noncomputable def q_c235_0 : ev_H := (cn1093 : e2_Q8)
noncomputable def rs_c235 : e2_Rs := [((9, 0, 0), q_c235_0)]
noncomputable def s_c235 : e2_Sm := (86, as_c235, E_c235, f_c235, rs_c235)
noncomputable def S_c235 : List e2_Sm := [s_c233]
noncomputable def I_c235 : List e2_In := []
set_option maxRecDepth 1000000 in
theorem co_c235 : e2_okSB E_c235.length as_c235 f_c235 rs_c235 = true := by decide +kernel
def al_c235_0 : List ev_V := [(2, 47, 0), (2, 17, 0), (2, 40, 0), (11, 0, 4294967295), (1, 1, 4294967296), (1, 2, 4294967296)]
def E_c235_0 : e2_E := [(2147483648, 2147583648, 0, 0), (2147483652, 2147483668, 1, 0), (2147483648, 2147483656, 2, 0)]
noncomputable def h_c235_0 : ev_H := (cn1093 : e2_Q8)
noncomputable def cl_c235_e : List (Nat × e2_S) := [(74, e2_cutL (al_c235_0.set 5 (11, 2147483648, 2147483656)) 2 (E_c235_0.take 2) h_c235_0)]
set_option maxRecDepth 1000000 in
theorem ck_c235_e : e2_run (e2_cal S_c235 I_c235 4000 0) (e2_fin rs_c235) e2x_86 (e2_bpL cl_c235_e) (e2_cutA cl_c235_e) 4000 (e2_seek e2x_86 0) (e2_al 6 as_c235) [] E_c235 f_c235 = true := by decide +kernel
noncomputable def cl_c235_0 : List (Nat × e2_S) := [(74, e2_cutL (al_c235_0.set 5 (13, 10, 2147483656)) 2 (E_c235_0.take 2) h_c235_0)]
set_option maxRecDepth 1000000 in
theorem ck_c235_0 : e2_runM (e2_cal S_c235 I_c235 4000 0) (e2_fin rs_c235) e2x_86 (e2_bpL cl_c235_0) (e2_cutA cl_c235_0) 4000 (e2_seek e2x_86 74) al_c235_0 [] E_c235_0 h_c235_0 = true := by decide +kernel
set_option maxRecDepth 1000000 in
theorem ci_c235_0 : e2_idl 2 (al_c235_0.set 5 (9, 0, 0)) = true := by decide +kernel
set_option maxRecDepth 1000000 in
theorem cj_c235_0 : e2_idh 2 8 h_c235_0 = true := by decide +kernel
theorem cs_c235 (hen : en_ok) (l : Launch) : e2_smOk l 5 s_c235 := by
  refine e2_conG (H := 4) (n := 0) (C := evd_86) (S := S_c235) (I := I_c235) (fuel := 4000) hen ei_86 (e2_fa (cs_c233 hen l) e2_fz) e2_fz (by decide) co_c235 fun M d _ hC hcall p e R s m args below meth c Q D cA A ads r0 ha hl0 => ?_
  have L_0 : e2_gdM M p l e R s m args below meth c Q D cA A ads r0 74 al_c235_0 [] E_c235_0 h_c235_0 := by
    refine e2_indL (u := 2) (j := 5) (lo := 2147483648) (hi := 2147483656) (b := 2) (dd := 0) hl0 (by decide) rfl rfl (Or.inr ⟨rfl, rfl⟩) rfl ci_c235_0 cj_c235_0 ?_
    intro r_0 k_0 hk_0 hp_0 hs_0 hn_0
    have hl_0 : r_0.length ≤ 3 := hs_0.len rfl
    have ha_0 := ha.ext hp_0
    exact e2_fromM hen ha_0 hcall (e2_cutA_ok (e2_fa (fun al st E h hc => hn_0 al st E h hc) e2_fz)) (hC []) (X := e2x_86) ex2_86 74 ck_c235_0
  have EN_0 := e2_entL (u := 2) (j := 5) (lo := 2147483648) (hi := 2147483656) hl0 rfl rfl rfl ci_c235_0 cj_c235_0 L_0
  exact e2_from hen ha hcall (e2_cutA_ok (e2_fa (fun al st E h hc => EN_0 al st E h hc) e2_fz)) (hC []) (X := e2x_86) ex2_86 0 ck_c235_e
/-! c236 X5_gainOf -/
def as_c236 : List ev_V := [(2, 47, 0), (11, 2147483648, 2147483651)]
def E_c236 : e2_E := [(2147483648, 2147583648, 0, 0), (2147483652, 2147483668, 1, 0)]
def cn1094 : e2_Q6 := (cn844, cn61)
def cn1095 : e2_Q3 := (cn87, cn305)
def cn1096 : e2_Q4 := (cn84, cn1095)
def cn1097 : e2_Q5 := (cn455, cn1096)
def cn1098 : e2_Q6 := (cn1097, cn124)
def cn1099 : e2_Q7 := (cn1094, cn1098)
def cn1100 : e2_Q5 := (cn865, cn371)
def cn1101 : e2_Q6 := (cn274, cn1100)
def cn1102 : e2_Q7 := (cn934, cn1101)
def cn1103 : e2_Q8 := (cn1099, cn1102)
noncomputable def f_c236 : ev_H := (cn1103 : e2_Q8)
noncomputable def q_c236_0 : ev_H := (cn1103 : e2_Q8)
noncomputable def rs_c236 : e2_Rs := [((11, 0, 4294967295), q_c236_0)]
noncomputable def s_c236 : e2_Sm := (95, as_c236, E_c236, f_c236, rs_c236)
noncomputable def S_c236 : List e2_Sm := []
noncomputable def I_c236 : List e2_In := []
set_option maxRecDepth 1000000 in
theorem co_c236 : e2_okSB E_c236.length as_c236 f_c236 rs_c236 = true := by decide +kernel
def al_c236_0 : List ev_V := [(2, 47, 0), (11, 2147483648, 2147483651), (11, 0, 4294967295), (1, 2, 4294967296)]
def E_c236_0 : e2_E := [(2147483648, 2147583648, 0, 0), (2147483652, 2147483668, 1, 0), (2147483648, 2147483668, 2, 0)]
noncomputable def h_c236_0 : ev_H := (cn1103 : e2_Q8)
noncomputable def cl_c236_e : List (Nat × e2_S) := [(4, e2_cutL (al_c236_0.set 3 (11, 2147483648, 2147483668)) 2 (E_c236_0.take 2) h_c236_0)]
set_option maxRecDepth 1000000 in
theorem ck_c236_e : e2_run (e2_cal S_c236 I_c236 4000 0) (e2_fin rs_c236) e2x_95 (e2_bpL cl_c236_e) (e2_cutA cl_c236_e) 4000 (e2_seek e2x_95 0) (e2_al 4 as_c236) [] E_c236 f_c236 = true := by decide +kernel
noncomputable def cl_c236_0 : List (Nat × e2_S) := [(4, e2_cutL (al_c236_0.set 3 (13, 10, 2147483668)) 2 (E_c236_0.take 2) h_c236_0)]
set_option maxRecDepth 1000000 in
theorem ck_c236_0 : e2_runM (e2_cal S_c236 I_c236 4000 0) (e2_fin rs_c236) e2x_95 (e2_bpL cl_c236_0) (e2_cutA cl_c236_0) 4000 (e2_seek e2x_95 4) al_c236_0 [] E_c236_0 h_c236_0 = true := by decide +kernel
set_option maxRecDepth 1000000 in
theorem ci_c236_0 : e2_idl 2 (al_c236_0.set 3 (9, 0, 0)) = true := by decide +kernel
set_option maxRecDepth 1000000 in
theorem cj_c236_0 : e2_idh 2 8 h_c236_0 = true := by decide +kernel
theorem cs_c236 (hen : en_ok) (l : Launch) : e2_smOk l 1 s_c236 := by
  refine e2_conG (H := 0) (n := 0) (C := evd_95) (S := S_c236) (I := I_c236) (fuel := 4000) hen ei_95 e2_fz e2_fz (by decide) co_c236 fun M d _ hC hcall p e R s m args below meth c Q D cA A ads r0 ha hl0 => ?_
  have L_0 : e2_gdM M p l e R s m args below meth c Q D cA A ads r0 4 al_c236_0 [] E_c236_0 h_c236_0 := by
    refine e2_indL (u := 2) (j := 3) (lo := 2147483648) (hi := 2147483668) (b := 2) (dd := 0) hl0 (by decide) rfl rfl (Or.inr ⟨rfl, rfl⟩) rfl ci_c236_0 cj_c236_0 ?_
    intro r_0 k_0 hk_0 hp_0 hs_0 hn_0
    have hl_0 : r_0.length ≤ 3 := hs_0.len rfl
    have ha_0 := ha.ext hp_0
    exact e2_fromM hen ha_0 hcall (e2_cutA_ok (e2_fa (fun al st E h hc => hn_0 al st E h hc) e2_fz)) (hC []) (X := e2x_95) ex2_95 4 ck_c236_0
  have EN_0 := e2_entL (u := 2) (j := 3) (lo := 2147483648) (hi := 2147483668) hl0 rfl rfl rfl ci_c236_0 cj_c236_0 L_0
  exact e2_from hen ha hcall (e2_cutA_ok (e2_fa (fun al st E h hc => EN_0 al st E h hc) e2_fz)) (hC []) (X := e2x_95) ex2_95 0 ck_c236_e
/-! c237 X5_takesAway -/
def as_c237 : List ev_V := [(2, 47, 0)]
def E_c237 : e2_E := [(2147483648, 2147583648, 0, 0), (2147483652, 2147483668, 1, 0)]
def cn1104 : e2_Q5 := (cn235, cn371)
def cn1105 : e2_Q6 := (cn274, cn1104)
def cn1106 : e2_Q7 := (cn934, cn1105)
def cn1107 : e2_Q8 := (cn1099, cn1106)
noncomputable def f_c237 : ev_H := (cn1107 : e2_Q8)
noncomputable def q_c237_0 : ev_H := (cn1107 : e2_Q8)
noncomputable def rs_c237 : e2_Rs := [((11, 2147483648, 2147483649), q_c237_0)]
noncomputable def s_c237 : e2_Sm := (96, as_c237, E_c237, f_c237, rs_c237)
noncomputable def S_c237 : List e2_Sm := []
noncomputable def I_c237 : List e2_In := []
set_option maxRecDepth 1000000 in
theorem co_c237 : e2_okSB E_c237.length as_c237 f_c237 rs_c237 = true := by decide +kernel
def al_c237_0 : List ev_V := [(2, 47, 0), (1, 2, 4294967296)]
def E_c237_0 : e2_E := [(2147483648, 2147583648, 0, 0), (2147483652, 2147483668, 1, 0), (2147483648, 2147483668, 2, 0)]
noncomputable def h_c237_0 : ev_H := (cn1107 : e2_Q8)
noncomputable def cl_c237_e : List (Nat × e2_S) := [(2, e2_cutL (al_c237_0.set 1 (11, 2147483648, 2147483668)) 2 (E_c237_0.take 2) h_c237_0)]
set_option maxRecDepth 1000000 in
theorem ck_c237_e : e2_run (e2_cal S_c237 I_c237 4000 0) (e2_fin rs_c237) e2x_96 (e2_bpL cl_c237_e) (e2_cutA cl_c237_e) 4000 (e2_seek e2x_96 0) (e2_al 2 as_c237) [] E_c237 f_c237 = true := by decide +kernel
noncomputable def cl_c237_0 : List (Nat × e2_S) := [(2, e2_cutL (al_c237_0.set 1 (13, 10, 2147483668)) 2 (E_c237_0.take 2) h_c237_0)]
set_option maxRecDepth 1000000 in
theorem ck_c237_0 : e2_runM (e2_cal S_c237 I_c237 4000 0) (e2_fin rs_c237) e2x_96 (e2_bpL cl_c237_0) (e2_cutA cl_c237_0) 4000 (e2_seek e2x_96 2) al_c237_0 [] E_c237_0 h_c237_0 = true := by decide +kernel
set_option maxRecDepth 1000000 in
theorem ci_c237_0 : e2_idl 2 (al_c237_0.set 1 (9, 0, 0)) = true := by decide +kernel
set_option maxRecDepth 1000000 in
theorem cj_c237_0 : e2_idh 2 8 h_c237_0 = true := by decide +kernel
theorem cs_c237 (hen : en_ok) (l : Launch) : e2_smOk l 1 s_c237 := by
  refine e2_conG (H := 0) (n := 0) (C := evd_96) (S := S_c237) (I := I_c237) (fuel := 4000) hen ei_96 e2_fz e2_fz (by decide) co_c237 fun M d _ hC hcall p e R s m args below meth c Q D cA A ads r0 ha hl0 => ?_
  have L_0 : e2_gdM M p l e R s m args below meth c Q D cA A ads r0 2 al_c237_0 [] E_c237_0 h_c237_0 := by
    refine e2_indL (u := 2) (j := 1) (lo := 2147483648) (hi := 2147483668) (b := 2) (dd := 0) hl0 (by decide) rfl rfl (Or.inr ⟨rfl, rfl⟩) rfl ci_c237_0 cj_c237_0 ?_
    intro r_0 k_0 hk_0 hp_0 hs_0 hn_0
    have hl_0 : r_0.length ≤ 3 := hs_0.len rfl
    have ha_0 := ha.ext hp_0
    exact e2_fromM hen ha_0 hcall (e2_cutA_ok (e2_fa (fun al st E h hc => hn_0 al st E h hc) e2_fz)) (hC []) (X := e2x_96) ex2_96 2 ck_c237_0
  have EN_0 := e2_entL (u := 2) (j := 1) (lo := 2147483648) (hi := 2147483668) hl0 rfl rfl rfl ci_c237_0 cj_c237_0 L_0
  exact e2_from hen ha hcall (e2_cutA_ok (e2_fa (fun al st E h hc => EN_0 al st E h hc) e2_fz)) (hC []) (X := e2x_96) ex2_96 0 ck_c237_e
/-! c238 X5_cellsOf -/
def as_c238 : List ev_V := [(2, 47, 0), (11, 2147483648, 2147483655)]
def E_c238 : e2_E := [(2147483648, 2147583648, 0, 0), (2147483652, 2147483668, 1, 0)]
def cn1108 : e2_Q7 := (cn62, cn1098)
def cn1109 : e2_Q3 := (cn151, cn326)
def cn1110 : e2_Q4 := (cn148, cn1109)
def cn1111 : e2_Q5 := (cn141, cn1110)
def cn1112 : e2_Q6 := (cn1111, cn188)
def cn1113 : e2_Q7 := (cn1112, cn1105)
def cn1114 : e2_Q8 := (cn1108, cn1113)
noncomputable def f_c238 : ev_H := (cn1114 : e2_Q8)
noncomputable def q_c238_0 : ev_H := (cn1114 : e2_Q8)
noncomputable def rs_c238 : e2_Rs := [((11, 0, 4294967295), q_c238_0)]
noncomputable def s_c238 : e2_Sm := (97, as_c238, E_c238, f_c238, rs_c238)
noncomputable def S_c238 : List e2_Sm := []
noncomputable def I_c238 : List e2_In := []
set_option maxRecDepth 1000000 in
theorem co_c238 : e2_okSB E_c238.length as_c238 f_c238 rs_c238 = true := by decide +kernel
def al_c238_0 : List ev_V := [(2, 47, 0), (11, 2147483648, 2147483655), (11, 0, 4294967295), (1, 2, 4294967296)]
def E_c238_0 : e2_E := [(2147483648, 2147583648, 0, 0), (2147483652, 2147483668, 1, 0), (2147483648, 2147483668, 2, 0)]
noncomputable def h_c238_0 : ev_H := (cn1114 : e2_Q8)
noncomputable def cl_c238_e : List (Nat × e2_S) := [(4, e2_cutL (al_c238_0.set 3 (11, 2147483648, 2147483668)) 2 (E_c238_0.take 2) h_c238_0)]
set_option maxRecDepth 1000000 in
theorem ck_c238_e : e2_run (e2_cal S_c238 I_c238 4000 0) (e2_fin rs_c238) e2x_97 (e2_bpL cl_c238_e) (e2_cutA cl_c238_e) 4000 (e2_seek e2x_97 0) (e2_al 4 as_c238) [] E_c238 f_c238 = true := by decide +kernel
noncomputable def cl_c238_0 : List (Nat × e2_S) := [(4, e2_cutL (al_c238_0.set 3 (13, 10, 2147483668)) 2 (E_c238_0.take 2) h_c238_0)]
set_option maxRecDepth 1000000 in
theorem ck_c238_0 : e2_runM (e2_cal S_c238 I_c238 4000 0) (e2_fin rs_c238) e2x_97 (e2_bpL cl_c238_0) (e2_cutA cl_c238_0) 4000 (e2_seek e2x_97 4) al_c238_0 [] E_c238_0 h_c238_0 = true := by decide +kernel
set_option maxRecDepth 1000000 in
theorem ci_c238_0 : e2_idl 2 (al_c238_0.set 3 (9, 0, 0)) = true := by decide +kernel
set_option maxRecDepth 1000000 in
theorem cj_c238_0 : e2_idh 2 8 h_c238_0 = true := by decide +kernel
theorem cs_c238 (hen : en_ok) (l : Launch) : e2_smOk l 1 s_c238 := by
  refine e2_conG (H := 0) (n := 0) (C := evd_97) (S := S_c238) (I := I_c238) (fuel := 4000) hen ei_97 e2_fz e2_fz (by decide) co_c238 fun M d _ hC hcall p e R s m args below meth c Q D cA A ads r0 ha hl0 => ?_
  have L_0 : e2_gdM M p l e R s m args below meth c Q D cA A ads r0 4 al_c238_0 [] E_c238_0 h_c238_0 := by
    refine e2_indL (u := 2) (j := 3) (lo := 2147483648) (hi := 2147483668) (b := 2) (dd := 0) hl0 (by decide) rfl rfl (Or.inr ⟨rfl, rfl⟩) rfl ci_c238_0 cj_c238_0 ?_
    intro r_0 k_0 hk_0 hp_0 hs_0 hn_0
    have hl_0 : r_0.length ≤ 3 := hs_0.len rfl
    have ha_0 := ha.ext hp_0
    exact e2_fromM hen ha_0 hcall (e2_cutA_ok (e2_fa (fun al st E h hc => hn_0 al st E h hc) e2_fz)) (hC []) (X := e2x_97) ex2_97 4 ck_c238_0
  have EN_0 := e2_entL (u := 2) (j := 3) (lo := 2147483648) (hi := 2147483668) hl0 rfl rfl rfl ci_c238_0 cj_c238_0 L_0
  exact e2_from hen ha hcall (e2_cutA_ok (e2_fa (fun al st E h hc => EN_0 al st E h hc) e2_fz)) (hC []) (X := e2x_97) ex2_97 0 ck_c238_e
/-! c239 X5_signAt -/
def as_c239 : List ev_V := [(2, 47, 0), (11, 2147483648, 2147483667)]
def E_c239 : e2_E := [(2147483648, 2147583648, 0, 0), (2147483652, 2147483668, 1, 0)]
noncomputable def f_c239 : ev_H := (cn1114 : e2_Q8)
noncomputable def q_c239_0 : ev_H := (cn1114 : e2_Q8)
noncomputable def rs_c239 : e2_Rs := [((11, 2147483647, 2147483655), q_c239_0)]
noncomputable def s_c239 : e2_Sm := (98, as_c239, E_c239, f_c239, rs_c239)
noncomputable def S_c239 : List e2_Sm := []
noncomputable def I_c239 : List e2_In := []
set_option maxRecDepth 1000000 in
theorem co_c239 : e2_okSB E_c239.length as_c239 f_c239 rs_c239 = true := by decide +kernel
def al_c239_0 : List ev_V := [(2, 47, 0), (11, 2147483648, 2147483667), (1, 2, 4294967296)]
def E_c239_0 : e2_E := [(2147483648, 2147583648, 0, 0), (2147483652, 2147483668, 1, 0), (2147483648, 2147483668, 2, 0)]
noncomputable def h_c239_0 : ev_H := (cn1114 : e2_Q8)
noncomputable def cl_c239_e : List (Nat × e2_S) := [(2, e2_cutL (al_c239_0.set 2 (11, 2147483648, 2147483668)) 2 (E_c239_0.take 2) h_c239_0)]
set_option maxRecDepth 1000000 in
theorem ck_c239_e : e2_run (e2_cal S_c239 I_c239 4000 0) (e2_fin rs_c239) e2x_98 (e2_bpL cl_c239_e) (e2_cutA cl_c239_e) 4000 (e2_seek e2x_98 0) (e2_al 3 as_c239) [] E_c239 f_c239 = true := by decide +kernel
noncomputable def cl_c239_0 : List (Nat × e2_S) := [(2, e2_cutL (al_c239_0.set 2 (13, 10, 2147483668)) 2 (E_c239_0.take 2) h_c239_0)]
set_option maxRecDepth 1000000 in
theorem ck_c239_0 : e2_runM (e2_cal S_c239 I_c239 4000 0) (e2_fin rs_c239) e2x_98 (e2_bpL cl_c239_0) (e2_cutA cl_c239_0) 4000 (e2_seek e2x_98 2) al_c239_0 [] E_c239_0 h_c239_0 = true := by decide +kernel
set_option maxRecDepth 1000000 in
theorem ci_c239_0 : e2_idl 2 (al_c239_0.set 2 (9, 0, 0)) = true := by decide +kernel
set_option maxRecDepth 1000000 in
theorem cj_c239_0 : e2_idh 2 8 h_c239_0 = true := by decide +kernel
theorem cs_c239 (hen : en_ok) (l : Launch) : e2_smOk l 1 s_c239 := by
  refine e2_conG (H := 0) (n := 0) (C := evd_98) (S := S_c239) (I := I_c239) (fuel := 4000) hen ei_98 e2_fz e2_fz (by decide) co_c239 fun M d _ hC hcall p e R s m args below meth c Q D cA A ads r0 ha hl0 => ?_
  have L_0 : e2_gdM M p l e R s m args below meth c Q D cA A ads r0 2 al_c239_0 [] E_c239_0 h_c239_0 := by
    refine e2_indL (u := 2) (j := 2) (lo := 2147483648) (hi := 2147483668) (b := 2) (dd := 0) hl0 (by decide) rfl rfl (Or.inr ⟨rfl, rfl⟩) rfl ci_c239_0 cj_c239_0 ?_
    intro r_0 k_0 hk_0 hp_0 hs_0 hn_0
    have hl_0 : r_0.length ≤ 3 := hs_0.len rfl
    have ha_0 := ha.ext hp_0
    exact e2_fromM hen ha_0 hcall (e2_cutA_ok (e2_fa (fun al st E h hc => hn_0 al st E h hc) e2_fz)) (hC []) (X := e2x_98) ex2_98 2 ck_c239_0
  have EN_0 := e2_entL (u := 2) (j := 2) (lo := 2147483648) (hi := 2147483668) hl0 rfl rfl rfl ci_c239_0 cj_c239_0 L_0
  exact e2_from hen ha hcall (e2_cutA_ok (e2_fa (fun al st E h hc => EN_0 al st E h hc) e2_fz)) (hC []) (X := e2x_98) ex2_98 0 ck_c239_e
/-! c240 X6_turnYear -/
def as_c240 : List ev_V := [(2, 36, 0), (2, 17, 0)]
def E_c240 : e2_E := [(2147483648, 2147583648, 0, 0), (2147483652, 2147483668, 1, 0)]
def cn1115 : e2_Q6 := (cn509, cn453)
def cn1116 : e2_Q2 := (cn878, cn98)
def cn1117 : e2_Q3 := (cn96, cn1116)
def cn1118 : e2_Q4 := (cn1117, cn107)
def cn1119 : e2_Q5 := (cn1118, cn514)
def cn1120 : e2_Q6 := (cn456, cn1119)
def cn1121 : e2_Q7 := (cn1115, cn1120)
def cn1122 : e2_Q7 := (cn934, cn525)
def cn1123 : e2_Q8 := (cn1121, cn1122)
noncomputable def f_c240 : ev_H := (cn1123 : e2_Q8)
noncomputable def q_c240_0 : ev_H := (cn1123 : e2_Q8)
noncomputable def rs_c240 : e2_Rs := [((9, 0, 0), q_c240_0)]
noncomputable def s_c240 : e2_Sm := (103, as_c240, E_c240, f_c240, rs_c240)
noncomputable def S_c240 : List e2_Sm := [s_c11]
noncomputable def I_c240 : List e2_In := [(101, 2, e2x_101), (159, 2, e2x_159)]
set_option maxRecDepth 1000000 in
theorem co_c240 : e2_okSB E_c240.length as_c240 f_c240 rs_c240 = true := by decide +kernel
def al_c240_0 : List ev_V := [(2, 36, 0), (2, 17, 0), (1, 2, 4294967296)]
def E_c240_0 : e2_E := [(2147483648, 2147583648, 0, 0), (2147483652, 2147483668, 1, 0), (2147483648, 2147483668, 2, 0)]
noncomputable def h_c240_0 : ev_H := (cn1123 : e2_Q8)
noncomputable def cl_c240_e : List (Nat × e2_S) := [(86, e2_cutL (al_c240_0.set 2 (11, 2147483648, 2147483668)) 2 (E_c240_0.take 2) h_c240_0)]
set_option maxRecDepth 1000000 in
theorem ck_c240_e : e2_run (e2_cal S_c240 I_c240 4000 1) (e2_fin rs_c240) e2x_103 (e2_bpL cl_c240_e) (e2_cutA cl_c240_e) 4000 (e2_seek e2x_103 0) (e2_al 3 as_c240) [] E_c240 f_c240 = true := by decide +kernel
noncomputable def cl_c240_0 : List (Nat × e2_S) := [(86, e2_cutL (al_c240_0.set 2 (13, 10, 2147483668)) 2 (E_c240_0.take 2) h_c240_0)]
set_option maxRecDepth 1000000 in
theorem ck_c240_0 : e2_runM (e2_cal S_c240 I_c240 4000 1) (e2_fin rs_c240) e2x_103 (e2_bpL cl_c240_0) (e2_cutA cl_c240_0) 4000 (e2_seek e2x_103 86) al_c240_0 [] E_c240_0 h_c240_0 = true := by decide +kernel
set_option maxRecDepth 1000000 in
theorem ci_c240_0 : e2_idl 2 (al_c240_0.set 2 (9, 0, 0)) = true := by decide +kernel
set_option maxRecDepth 1000000 in
theorem cj_c240_0 : e2_idh 2 8 h_c240_0 = true := by decide +kernel
theorem cs_c240 (hen : en_ok) (l : Launch) : e2_smOk l 4 s_c240 := by
  refine e2_conG (H := 2) (n := 1) (C := evd_103) (S := S_c240) (I := I_c240) (fuel := 4000) hen ei_103 (e2_fa (cs_c11 hen l) e2_fz) (e2_fa ein_101 (e2_fa ein_159 e2_fz)) (by decide) co_c240 fun M d _ hC hcall p e R s m args below meth c Q D cA A ads r0 ha hl0 => ?_
  have L_0 : e2_gdM M p l e R s m args below meth c Q D cA A ads r0 86 al_c240_0 [] E_c240_0 h_c240_0 := by
    refine e2_indL (u := 2) (j := 2) (lo := 2147483648) (hi := 2147483668) (b := 2) (dd := 0) hl0 (by decide) rfl rfl (Or.inr ⟨rfl, rfl⟩) rfl ci_c240_0 cj_c240_0 ?_
    intro r_0 k_0 hk_0 hp_0 hs_0 hn_0
    have hl_0 : r_0.length ≤ 3 := hs_0.len rfl
    have ha_0 := ha.ext hp_0
    exact e2_fromM hen ha_0 hcall (e2_cutA_ok (e2_fa (fun al st E h hc => hn_0 al st E h hc) e2_fz)) (hC []) (X := e2x_103) ex2_103 86 ck_c240_0
  have EN_0 := e2_entL (u := 2) (j := 2) (lo := 2147483648) (hi := 2147483668) hl0 rfl rfl rfl ci_c240_0 cj_c240_0 L_0
  exact e2_from hen ha hcall (e2_cutA_ok (e2_fa (fun al st E h hc => EN_0 al st E h hc) e2_fz)) (hC []) (X := e2x_103) ex2_103 0 ck_c240_e
/-! c241 X6_turnYear -/
def as_c241 : List ev_V := [(2, 40, 0), (2, 17, 0)]
def E_c241 : e2_E := [(2147483648, 2147583648, 0, 0), (2147483652, 2147483668, 1, 0)]
def cn1124 : e2_Q5 := (cn508, cn1079)
def cn1125 : e2_Q6 := (cn1124, cn61)
def cn1126 : e2_Q2 := (cn878, cn82)
def cn1127 : e2_Q3 := (cn80, cn1126)
def cn1128 : e2_Q4 := (cn1127, cn91)
def cn1129 : e2_Q5 := (cn455, cn1128)
def cn1130 : e2_Q6 := (cn1129, cn515)
def cn1131 : e2_Q7 := (cn1125, cn1130)
def cn1132 : e2_Q7 := (cn934, cn533)
def cn1133 : e2_Q8 := (cn1131, cn1132)
noncomputable def f_c241 : ev_H := (cn1133 : e2_Q8)
noncomputable def q_c241_0 : ev_H := (cn1133 : e2_Q8)
noncomputable def rs_c241 : e2_Rs := [((9, 0, 0), q_c241_0)]
noncomputable def s_c241 : e2_Sm := (103, as_c241, E_c241, f_c241, rs_c241)
noncomputable def S_c241 : List e2_Sm := [s_c12]
noncomputable def I_c241 : List e2_In := [(101, 2, e2x_101), (159, 2, e2x_159)]
set_option maxRecDepth 1000000 in
theorem co_c241 : e2_okSB E_c241.length as_c241 f_c241 rs_c241 = true := by decide +kernel
def al_c241_0 : List ev_V := [(2, 40, 0), (2, 17, 0), (1, 2, 4294967296)]
def E_c241_0 : e2_E := [(2147483648, 2147583648, 0, 0), (2147483652, 2147483668, 1, 0), (2147483648, 2147483668, 2, 0)]
noncomputable def h_c241_0 : ev_H := (cn1133 : e2_Q8)
noncomputable def cl_c241_e : List (Nat × e2_S) := [(86, e2_cutL (al_c241_0.set 2 (11, 2147483648, 2147483668)) 2 (E_c241_0.take 2) h_c241_0)]
set_option maxRecDepth 1000000 in
theorem ck_c241_e : e2_run (e2_cal S_c241 I_c241 4000 1) (e2_fin rs_c241) e2x_103 (e2_bpL cl_c241_e) (e2_cutA cl_c241_e) 4000 (e2_seek e2x_103 0) (e2_al 3 as_c241) [] E_c241 f_c241 = true := by decide +kernel
noncomputable def cl_c241_0 : List (Nat × e2_S) := [(86, e2_cutL (al_c241_0.set 2 (13, 10, 2147483668)) 2 (E_c241_0.take 2) h_c241_0)]
set_option maxRecDepth 1000000 in
theorem ck_c241_0 : e2_runM (e2_cal S_c241 I_c241 4000 1) (e2_fin rs_c241) e2x_103 (e2_bpL cl_c241_0) (e2_cutA cl_c241_0) 4000 (e2_seek e2x_103 86) al_c241_0 [] E_c241_0 h_c241_0 = true := by decide +kernel
set_option maxRecDepth 1000000 in
theorem ci_c241_0 : e2_idl 2 (al_c241_0.set 2 (9, 0, 0)) = true := by decide +kernel
set_option maxRecDepth 1000000 in
theorem cj_c241_0 : e2_idh 2 8 h_c241_0 = true := by decide +kernel
theorem cs_c241 (hen : en_ok) (l : Launch) : e2_smOk l 4 s_c241 := by
  refine e2_conG (H := 2) (n := 1) (C := evd_103) (S := S_c241) (I := I_c241) (fuel := 4000) hen ei_103 (e2_fa (cs_c12 hen l) e2_fz) (e2_fa ein_101 (e2_fa ein_159 e2_fz)) (by decide) co_c241 fun M d _ hC hcall p e R s m args below meth c Q D cA A ads r0 ha hl0 => ?_
  have L_0 : e2_gdM M p l e R s m args below meth c Q D cA A ads r0 86 al_c241_0 [] E_c241_0 h_c241_0 := by
    refine e2_indL (u := 2) (j := 2) (lo := 2147483648) (hi := 2147483668) (b := 2) (dd := 0) hl0 (by decide) rfl rfl (Or.inr ⟨rfl, rfl⟩) rfl ci_c241_0 cj_c241_0 ?_
    intro r_0 k_0 hk_0 hp_0 hs_0 hn_0
    have hl_0 : r_0.length ≤ 3 := hs_0.len rfl
    have ha_0 := ha.ext hp_0
    exact e2_fromM hen ha_0 hcall (e2_cutA_ok (e2_fa (fun al st E h hc => hn_0 al st E h hc) e2_fz)) (hC []) (X := e2x_103) ex2_103 86 ck_c241_0
  have EN_0 := e2_entL (u := 2) (j := 2) (lo := 2147483648) (hi := 2147483668) hl0 rfl rfl rfl ci_c241_0 cj_c241_0 L_0
  exact e2_from hen ha hcall (e2_cutA_ok (e2_fa (fun al st E h hc => EN_0 al st E h hc) e2_fz)) (hC []) (X := e2x_103) ex2_103 0 ck_c241_e
/-! c242 X7_putFour -/
def as_c242 : List ev_V := [(2, 34, 0), (11, 0, 4294967295)]
def E_c242 : e2_E := [(2147483648, 2147583648, 0, 0), (2147483652, 2147483668, 1, 0)]
noncomputable def f_c242 : ev_H := (cn587 : e2_Q8)
noncomputable def q_c242_0 : ev_H := (cn587 : e2_Q8)
noncomputable def rs_c242 : e2_Rs := [((9, 0, 0), q_c242_0)]
noncomputable def s_c242 : e2_Sm := (105, as_c242, E_c242, f_c242, rs_c242)
noncomputable def S_c242 : List e2_Sm := []
noncomputable def I_c242 : List e2_In := []
set_option maxRecDepth 1000000 in
theorem co_c242 : e2_okSB E_c242.length as_c242 f_c242 rs_c242 = true := by decide +kernel
def al_c242_0 : List ev_V := [(2, 34, 0), (11, 0, 4294967295), (1, 2, 4294967296)]
def E_c242_0 : e2_E := [(2147483648, 2147583648, 0, 0), (2147483652, 2147483668, 1, 0), (2147483640, 2147483672, 2, 0)]
noncomputable def h_c242_0 : ev_H := (cn587 : e2_Q8)
noncomputable def cl_c242_e : List (Nat × e2_S) := [(3, e2_cutL (al_c242_0.set 2 (11, 2147483640, 2147483672)) 2 (E_c242_0.take 2) h_c242_0)]
set_option maxRecDepth 1000000 in
theorem ck_c242_e : e2_run (e2_cal S_c242 I_c242 4000 0) (e2_fin rs_c242) e2x_105 (e2_bpL cl_c242_e) (e2_cutA cl_c242_e) 4000 (e2_seek e2x_105 0) (e2_al 3 as_c242) [] E_c242 f_c242 = true := by decide +kernel
noncomputable def cl_c242_0 : List (Nat × e2_S) := [(3, e2_cutL (al_c242_0.set 2 (12, 10, 2147483640)) 2 (E_c242_0.take 2) h_c242_0)]
set_option maxRecDepth 1000000 in
theorem ck_c242_0 : e2_runM (e2_cal S_c242 I_c242 4000 0) (e2_fin rs_c242) e2x_105 (e2_bpL cl_c242_0) (e2_cutA cl_c242_0) 4000 (e2_seek e2x_105 3) al_c242_0 [] E_c242_0 h_c242_0 = true := by decide +kernel
set_option maxRecDepth 1000000 in
theorem ci_c242_0 : e2_idl 2 (al_c242_0.set 2 (9, 0, 0)) = true := by decide +kernel
set_option maxRecDepth 1000000 in
theorem cj_c242_0 : e2_idh 2 8 h_c242_0 = true := by decide +kernel
theorem cs_c242 (hen : en_ok) (l : Launch) : e2_smOk l 1 s_c242 := by
  refine e2_conG (H := 0) (n := 0) (C := evd_105) (S := S_c242) (I := I_c242) (fuel := 4000) hen ei_105 e2_fz e2_fz (by decide) co_c242 fun M d _ hC hcall p e R s m args below meth c Q D cA A ads r0 ha hl0 => ?_
  have L_0 : e2_gdM M p l e R s m args below meth c Q D cA A ads r0 3 al_c242_0 [] E_c242_0 h_c242_0 := by
    refine e2_indD (u := 2) (j := 2) (lo := 2147483640) (hi := 2147483672) hl0 (by decide) rfl rfl rfl ci_c242_0 cj_c242_0 ?_
    intro r_0 k_0 hk_0 hp_0 hs_0 hn_0
    have hl_0 : r_0.length ≤ 3 := hs_0.len rfl
    have ha_0 := ha.ext hp_0
    exact e2_fromM hen ha_0 hcall (e2_cutA_ok (e2_fa (fun al st E h hc => hn_0 al st E h hc) e2_fz)) (hC []) (X := e2x_105) ex2_105 3 ck_c242_0
  have EN_0 := e2_entL (u := 2) (j := 2) (lo := 2147483640) (hi := 2147483672) hl0 rfl rfl rfl ci_c242_0 cj_c242_0 L_0
  exact e2_from hen ha hcall (e2_cutA_ok (e2_fa (fun al st E h hc => EN_0 al st E h hc) e2_fz)) (hC []) (X := e2x_105) ex2_105 0 ck_c242_e
/-! c243 X9_feed -/
def as_c243 : List ev_V := [(2, 0, 0), (11, 0, 4294967295), (11, 0, 4294967295), (11, 0, 4294967295), (11, 0, 4294967295), (11, 0, 4294967295)]
def E_c243 : e2_E := [(2147483648, 2147583648, 0, 0), (2147483652, 2147483668, 1, 0)]
def cc198 : ev_C := (9, [(2, 17, 0), (2, 36, 0), (2, 47, 0), (2, 59, 0), (2, 44, 0), (2, 77, 0), (2, 40, 0), (2, 33, 0), (2, 1, 0)])
def cn1134 : e2_Q1 := (cc198, cc1)
def cn1135 : e2_Q2 := (cn1134, cn1)
def cn1136 : e2_Q3 := (cn1135, cn5)
def cn1137 : e2_Q4 := (cn1136, cn13)
def cn1138 : e2_Q5 := (cn1137, cn29)
def cn1139 : e2_Q6 := (cn1138, cn61)
def cn1140 : e2_Q7 := (cn1139, cn268)
def cn1141 : e2_Q3 := (cn129, cn762)
def cn1142 : e2_Q4 := (cn1141, cn140)
def cn1143 : e2_Q5 := (cn1142, cn156)
def cn1144 : e2_Q6 := (cn1143, cn188)
def cn1145 : e2_Q7 := (cn1144, cn252)
def cn1146 : e2_Q8 := (cn1140, cn1145)
noncomputable def f_c243 : ev_H := (cn1146 : e2_Q8)
noncomputable def q_c243_0 : ev_H := (cn1146 : e2_Q8)
noncomputable def rs_c243 : e2_Rs := [((11, 2147483647, 2147485248), q_c243_0)]
noncomputable def s_c243 : e2_Sm := (123, as_c243, E_c243, f_c243, rs_c243)
noncomputable def S_c243 : List e2_Sm := [s_c242]
noncomputable def I_c243 : List e2_In := [(104, 2, e2x_104)]
set_option maxRecDepth 1000000 in
theorem ck_c243 : e2_run (e2_cal S_c243 I_c243 4000 1) (e2_fin rs_c243) e2x_123 (fun _ => false) (fun _ _ _ _ _ => false) 4000 (e2_seek e2x_123 0) (e2_al 7 as_c243) [] E_c243 f_c243 = true := by decide +kernel
set_option maxRecDepth 1000000 in
theorem co_c243 : e2_okSB E_c243.length as_c243 f_c243 rs_c243 = true := by decide +kernel
theorem cs_c243 (hen : en_ok) (l : Launch) : e2_smOk l 3 s_c243 := e2_con0 (H := 1) (n := 1) (C := evd_123) (S := S_c243) (I := I_c243) (fuel := 4000) [] hen ei_123 (e2_fa (cs_c242 hen l) e2_fz) (e2_fa ein_104 e2_fz) (by decide) co_c243 ex2_123 ck_c243
/-! c244 X9_meadow -/
def as_c244 : List ev_V := [(2, 0, 0)]
def E_c244 : e2_E := [(2147483648, 2147583648, 0, 0), (2147483652, 2147483668, 1, 0)]
def cn1147 : e2_Q5 := (cn1137, cn681)
def cn1148 : e2_Q3 := (cn683, cn450)
def cn1149 : e2_Q4 := (cn1148, cn44)
def cc199 : ev_C := (2, [(11, 0, 4294967295), (2, 45, 0), (11, 0, 4294967295), (11, 0, 4294967295), (2, 46, 0), (11, 0, 4294967295)])
def cn1150 : e2_Q1 := (cc199, cc3)
def cn1151 : e2_Q2 := (cn1150, cn50)
def cn1152 : e2_Q3 := (cn626, cn1151)
def cn1153 : e2_Q4 := (cn1152, cn59)
def cn1154 : e2_Q5 := (cn1149, cn1153)
def cn1155 : e2_Q6 := (cn1147, cn1154)
def cn1156 : e2_Q3 := (cn310, cn1116)
def cn1157 : e2_Q4 := (cn1156, cn400)
def cn1158 : e2_Q5 := (cn1157, cn645)
def cn1159 : e2_Q6 := (cn757, cn1158)
def cn1160 : e2_Q7 := (cn1155, cn1159)
def cn1161 : e2_Q3 := (cn697, cn465)
def cn1162 : e2_Q4 := (cn1161, cn699)
def cc200 : ev_C := (54, [(0, 1107, 0), (11, 0, 4294967295)])
def cn1163 : e2_Q1 := (cc200, cc3)
def cn1164 : e2_Q2 := (cn1163, cn177)
def cn1165 : e2_Q3 := (cn561, cn1164)
def cn1166 : e2_Q4 := (cn1165, cn186)
def cn1167 : e2_Q5 := (cn1162, cn1166)
def cn1168 : e2_Q6 := (cn765, cn1167)
def cn1169 : e2_Q3 := (cn214, cn826)
def cn1170 : e2_Q4 := (cn634, cn1169)
def cn1171 : e2_Q5 := (cn767, cn1170)
def cn1172 : e2_Q6 := (cn1171, cn769)
def cn1173 : e2_Q7 := (cn1168, cn1172)
def cn1174 : e2_Q8 := (cn1160, cn1173)
noncomputable def f_c244 : ev_H := (cn1174 : e2_Q8)
def cn1175 : e2_Q6 := (cn777, cn1167)
def cn1176 : e2_Q7 := (cn1175, cn1172)
def cn1177 : e2_Q8 := (cn1160, cn1176)
noncomputable def q_c244_0 : ev_H := (cn1177 : e2_Q8)
def cc201 : ev_C := (9, [(2, 1, 0), (2, 36, 0), (2, 47, 0), (2, 59, 0), (2, 44, 0), (2, 77, 0), (2, 40, 0), (2, 33, 0), (2, 17, 0)])
def cn1178 : e2_Q1 := (cc201, cc1)
def cn1179 : e2_Q2 := (cn1178, cn1)
def cn1180 : e2_Q3 := (cn1179, cn5)
def cn1181 : e2_Q4 := (cn1180, cn13)
def cn1182 : e2_Q5 := (cn1181, cn681)
def cn1183 : e2_Q6 := (cn1182, cn1154)
def cn1184 : e2_Q7 := (cn1183, cn1159)
def cn1185 : e2_Q8 := (cn1184, cn1176)
noncomputable def q_c244_1 : ev_H := (cn1185 : e2_Q8)
noncomputable def rs_c244 : e2_Rs := [((0, 4294967295, 0), q_c244_0), ((11, 2147483648, 2147483656), q_c244_1)]
noncomputable def s_c244 : e2_Sm := (125, as_c244, E_c244, f_c244, rs_c244)
noncomputable def S_c244 : List e2_Sm := [s_c8, s_c186]
noncomputable def I_c244 : List e2_In := [(3, 2, e2x_3), (9, 4, e2x_9), (23, 2, e2x_23), (39, 1, e2x_39), (63, 1, e2x_63), (106, 2, e2x_106)]
set_option maxRecDepth 1000000 in
theorem ck_c244 : e2_run (e2_cal S_c244 I_c244 4000 2) (e2_fin rs_c244) e2x_125 (fun _ => false) (fun _ _ _ _ _ => false) 4000 (e2_seek e2x_125 0) (e2_al 2 as_c244) [] E_c244 f_c244 = true := by decide +kernel
set_option maxRecDepth 1000000 in
theorem co_c244 : e2_okSB E_c244.length as_c244 f_c244 rs_c244 = true := by decide +kernel
theorem cs_c244 (hen : en_ok) (l : Launch) (hh : e2_hand_c l) : e2_smOk l 223 s_c244 := e2_con0 (H := 220) (n := 2) (C := evd_125) (S := S_c244) (I := I_c244) (fuel := 4000) [] hen ei_125 (e2_fa ((cs_c8 hen l).mono (by decide)) (e2_fa (cs_c186 hen l hh) e2_fz)) (e2_fa ein_3 (e2_fa ein_9 (e2_fa ein_23 (e2_fa ein_39 (e2_fa ein_63 (e2_fa ein_106 e2_fz)))))) (by decide) co_c244 ex2_125 ck_c244
/-! c245 X9_readAll -/
def as_c245 : List ev_V := [(2, 0, 0), (2, 36, 0)]
def E_c245 : e2_E := [(2147483648, 2147583648, 0, 0), (2147483652, 2147483668, 1, 0)]
def cn1186 : e2_Q4 := (cn1136, cn280)
def cn1187 : e2_Q5 := (cn1186, cn285)
def cn1188 : e2_Q6 := (cn1187, cn1053)
def cn1189 : e2_Q5 := (cn1055, cn307)
def cn1190 : e2_Q6 := (cn1189, cn317)
def cn1191 : e2_Q7 := (cn1188, cn1190)
def cn1192 : e2_Q5 := (cn1043, cn328)
def cn1193 : e2_Q6 := (cn1192, cn1060)
def cn1194 : e2_Q3 := (cn810, cn346)
def cn1195 : e2_Q4 := (cn345, cn1194)
def cn1196 : e2_Q5 := (cn1195, cn1065)
def cn1197 : e2_Q6 := (cn1047, cn1196)
def cn1198 : e2_Q7 := (cn1193, cn1197)
def cn1199 : e2_Q8 := (cn1191, cn1198)
noncomputable def f_c245 : ev_H := (cn1199 : e2_Q8)
def cn1200 : e2_Q7 := (cn1188, cn318)
def cn1201 : e2_Q4 := (cn804, cn359)
def cn1202 : e2_Q5 := (cn1201, cn495)
def cn1203 : e2_Q6 := (cn1192, cn1202)
def cn1204 : e2_Q5 := (cn366, cn501)
def cn1205 : e2_Q5 := (cn1195, cn371)
def cn1206 : e2_Q6 := (cn1204, cn1205)
def cn1207 : e2_Q7 := (cn1203, cn1206)
def cn1208 : e2_Q8 := (cn1200, cn1207)
noncomputable def q_c245_0 : ev_H := (cn1208 : e2_Q8)
noncomputable def rs_c245 : e2_Rs := [((11, 0, 4294967295), q_c245_0)]
noncomputable def s_c245 : e2_Sm := (166, as_c245, E_c245, f_c245, rs_c245)
noncomputable def S_c245 : List e2_Sm := [s_c3, s_c234]
noncomputable def I_c245 : List e2_In := []
set_option maxRecDepth 1000000 in
theorem ck_c245 : e2_run (e2_cal S_c245 I_c245 4000 0) (e2_fin rs_c245) e2x_166 (fun _ => false) (fun _ _ _ _ _ => false) 4000 (e2_seek e2x_166 0) (e2_al 3 as_c245) [] E_c245 f_c245 = true := by decide +kernel
set_option maxRecDepth 1000000 in
theorem co_c245 : e2_okSB E_c245.length as_c245 f_c245 rs_c245 = true := by decide +kernel
theorem cs_c245 (hen : en_ok) (l : Launch) (hh : e2_hand_c l) : e2_smOk l 61 s_c245 := e2_con0 (H := 60) (n := 0) (C := evd_166) (S := S_c245) (I := I_c245) (fuel := 4000) [] hen ei_166 (e2_fa (hh _ hm_c3) (e2_fa ((cs_c234 hen l).mono (by decide)) e2_fz)) e2_fz (by decide) co_c245 ex2_166 ck_c245
/-! c246 X9_takeNow -/
def as_c246 : List ev_V := [(2, 0, 0)]
def E_c246 : e2_E := [(2147483648, 2147583648, 0, 0), (2147483652, 2147483668, 1, 0)]
noncomputable def f_c246 : ev_H := (cn1199 : e2_Q8)
noncomputable def q_c246_0 : ev_H := (cn1208 : e2_Q8)
noncomputable def rs_c246 : e2_Rs := [((11, 2147483648, 2147483649), q_c246_0)]
noncomputable def s_c246 : e2_Sm := (167, as_c246, E_c246, f_c246, rs_c246)
noncomputable def S_c246 : List e2_Sm := [s_c4, s_c245]
noncomputable def I_c246 : List e2_In := []
set_option maxRecDepth 1000000 in
theorem ck_c246 : e2_run (e2_cal S_c246 I_c246 4000 0) (e2_fin rs_c246) e2x_167 (fun _ => false) (fun _ _ _ _ _ => false) 4000 (e2_seek e2x_167 0) (e2_al 1 as_c246) [] E_c246 f_c246 = true := by decide +kernel
set_option maxRecDepth 1000000 in
theorem co_c246 : e2_okSB E_c246.length as_c246 f_c246 rs_c246 = true := by decide +kernel
theorem cs_c246 (hen : en_ok) (l : Launch) (hh : e2_hand_c l) : e2_smOk l 62 s_c246 := e2_con0 (H := 61) (n := 0) (C := evd_167) (S := S_c246) (I := I_c246) (fuel := 4000) [] hen ei_167 (e2_fa ((hh _ hm_c4).mono (by decide)) (e2_fa (cs_c245 hen l hh) e2_fz)) e2_fz (by decide) co_c246 ex2_167 ck_c246
/-! c247 X9_glyph -/
def as_c247 : List ev_V := [(2, 0, 0), (11, 0, 4294967295), (11, 0, 4294967295)]
def E_c247 : e2_E := [(2147483648, 2147583648, 0, 0), (2147483652, 2147483668, 1, 0)]
def cn1209 : e2_Q3 := (cn841, cn283)
def cn1210 : e2_Q4 := (cn21, cn1209)
def cn1211 : e2_Q5 := (cn1186, cn1210)
def cn1212 : e2_Q6 := (cn1211, cn1053)
def cn1213 : e2_Q7 := (cn1212, cn1190)
def cn1214 : e2_Q8 := (cn1213, cn1198)
noncomputable def f_c247 : ev_H := (cn1214 : e2_Q8)
noncomputable def q_c247_0 : ev_H := (cn1214 : e2_Q8)
noncomputable def rs_c247 : e2_Rs := [((11, 0, 4294967295), q_c247_0)]
noncomputable def s_c247 : e2_Sm := (128, as_c247, E_c247, f_c247, rs_c247)
noncomputable def S_c247 : List e2_Sm := [s_c238, s_c246]
noncomputable def I_c247 : List e2_In := [(162, 2, e2x_162)]
set_option maxRecDepth 1000000 in
theorem ck_c247 : e2_run (e2_cal S_c247 I_c247 4000 1) (e2_fin rs_c247) e2x_128 (fun _ => false) (fun _ _ _ _ _ => false) 4000 (e2_seek e2x_128 0) (e2_al 3 as_c247) [] E_c247 f_c247 = true := by decide +kernel
set_option maxRecDepth 1000000 in
theorem co_c247 : e2_okSB E_c247.length as_c247 f_c247 rs_c247 = true := by decide +kernel
theorem cs_c247 (hen : en_ok) (l : Launch) (hh : e2_hand_c l) : e2_smOk l 64 s_c247 := e2_con0 (H := 62) (n := 1) (C := evd_128) (S := S_c247) (I := I_c247) (fuel := 4000) [] hen ei_128 (e2_fa ((cs_c238 hen l).mono (by decide)) (e2_fa (cs_c246 hen l hh) e2_fz)) (e2_fa ein_162 e2_fz) (by decide) co_c247 ex2_128 ck_c247
/-! c248 X9_plot -/
def as_c248 : List ev_V := [(2, 0, 0), (11, 0, 4294967295), (11, 0, 4294967295)]
def E_c248 : e2_E := [(2147483648, 2147583648, 0, 0), (2147483652, 2147483668, 1, 0)]
def cn1215 : e2_Q4 := (cn1156, cn315)
def cn1216 : e2_Q5 := (cn1215, cn123)
def cn1217 : e2_Q6 := (cn1189, cn1216)
def cn1218 : e2_Q7 := (cn1188, cn1217)
def cn1219 : e2_Q8 := (cn1218, cn1198)
noncomputable def f_c248 : ev_H := (cn1219 : e2_Q8)
noncomputable def q_c248_0 : ev_H := (cn1219 : e2_Q8)
noncomputable def rs_c248 : e2_Rs := [((11, 0, 4294967295), q_c248_0)]
noncomputable def s_c248 : e2_Sm := (129, as_c248, E_c248, f_c248, rs_c248)
noncomputable def S_c248 : List e2_Sm := [s_c239, s_c246]
noncomputable def I_c248 : List e2_In := [(159, 2, e2x_159), (163, 2, e2x_163)]
set_option maxRecDepth 1000000 in
theorem ck_c248 : e2_run (e2_cal S_c248 I_c248 4000 1) (e2_fin rs_c248) e2x_129 (fun _ => false) (fun _ _ _ _ _ => false) 4000 (e2_seek e2x_129 0) (e2_al 4 as_c248) [] E_c248 f_c248 = true := by decide +kernel
set_option maxRecDepth 1000000 in
theorem co_c248 : e2_okSB E_c248.length as_c248 f_c248 rs_c248 = true := by decide +kernel
theorem cs_c248 (hen : en_ok) (l : Launch) (hh : e2_hand_c l) : e2_smOk l 64 s_c248 := e2_con0 (H := 62) (n := 1) (C := evd_129) (S := S_c248) (I := I_c248) (fuel := 4000) [] hen ei_129 (e2_fa ((cs_c239 hen l).mono (by decide)) (e2_fa (cs_c246 hen l hh) e2_fz)) (e2_fa ein_159 (e2_fa ein_163 e2_fz)) (by decide) co_c248 ex2_129 ck_c248
/-! c249 X9_passYear -/
def as_c249 : List ev_V := [(2, 0, 0), (2, 36, 0)]
def E_c249 : e2_E := [(2147483648, 2147583648, 0, 0), (2147483652, 2147483668, 1, 0)]
def cn1220 : e2_Q3 := (cn1135, cn506)
def cn1221 : e2_Q4 := (cn1220, cn280)
def cn1222 : e2_Q5 := (cn1221, cn1210)
def cn1223 : e2_Q6 := (cn1222, cn1053)
def cn1224 : e2_Q5 := (cn1215, cn514)
def cn1225 : e2_Q6 := (cn1189, cn1224)
def cn1226 : e2_Q7 := (cn1223, cn1225)
def cn1227 : e2_Q3 := (cn344, cn518)
def cn1228 : e2_Q4 := (cn1227, cn1194)
def cn1229 : e2_Q4 := (cn1064, cn522)
def cn1230 : e2_Q5 := (cn1228, cn1229)
def cn1231 : e2_Q6 := (cn1047, cn1230)
def cn1232 : e2_Q7 := (cn1193, cn1231)
def cn1233 : e2_Q8 := (cn1226, cn1232)
noncomputable def f_c249 : ev_H := (cn1233 : e2_Q8)
def cn1234 : e2_Q6 := (cn308, cn1224)
def cn1235 : e2_Q7 := (cn1223, cn1234)
def cn1236 : e2_Q4 := (cn370, cn522)
def cn1237 : e2_Q5 := (cn1228, cn1236)
def cn1238 : e2_Q6 := (cn1204, cn1237)
def cn1239 : e2_Q7 := (cn1203, cn1238)
def cn1240 : e2_Q8 := (cn1235, cn1239)
noncomputable def q_c249_0 : ev_H := (cn1240 : e2_Q8)
noncomputable def rs_c249 : e2_Rs := [((11, 2147483647, 2147483668), q_c249_0)]
noncomputable def s_c249 : e2_Sm := (168, as_c249, E_c249, f_c249, rs_c249)
noncomputable def S_c249 : List e2_Sm := [s_c4, s_c240, s_c245]
noncomputable def I_c249 : List e2_In := [(102, 3, e2x_102), (160, 2, e2x_160)]
set_option maxRecDepth 1000000 in
theorem co_c249 : e2_okSB E_c249.length as_c249 f_c249 rs_c249 = true := by decide +kernel
def al_c249_0 : List ev_V := [(2, 0, 0), (2, 36, 0), (11, 2147483648, 2147483668), (1, 2, 4294967296), (9, 0, 0)]
def E_c249_0 : e2_E := [(2147483648, 2147583648, 0, 0), (2147483652, 2147483668, 1, 0), (2147483648, 2147483668, 2, 0)]
noncomputable def h_c249_0 : ev_H := (cn1240 : e2_Q8)
noncomputable def cl_c249_e : List (Nat × e2_S) := [(30, e2_cutL (al_c249_0.set 3 (11, 2147483648, 2147483668)) 2 (E_c249_0.take 2) h_c249_0)]
set_option maxRecDepth 1000000 in
theorem ck_c249_e : e2_run (e2_cal S_c249 I_c249 4000 2) (e2_fin rs_c249) e2x_168 (e2_bpL cl_c249_e) (e2_cutA cl_c249_e) 4000 (e2_seek e2x_168 0) (e2_al 5 as_c249) [] E_c249 f_c249 = true := by decide +kernel
noncomputable def cl_c249_0 : List (Nat × e2_S) := [(30, e2_cutL (al_c249_0.set 3 (13, 10, 2147483668)) 2 (E_c249_0.take 2) h_c249_0)]
set_option maxRecDepth 1000000 in
theorem ck_c249_0 : e2_runM (e2_cal S_c249 I_c249 4000 2) (e2_fin rs_c249) e2x_168 (e2_bpL cl_c249_0) (e2_cutA cl_c249_0) 4000 (e2_seek e2x_168 30) al_c249_0 [] E_c249_0 h_c249_0 = true := by decide +kernel
set_option maxRecDepth 1000000 in
theorem ci_c249_0 : e2_idl 2 (al_c249_0.set 3 (9, 0, 0)) = true := by decide +kernel
set_option maxRecDepth 1000000 in
theorem cj_c249_0 : e2_idh 2 8 h_c249_0 = true := by decide +kernel
theorem cs_c249 (hen : en_ok) (l : Launch) (hh : e2_hand_c l) : e2_smOk l 64 s_c249 := by
  refine e2_conG (H := 61) (n := 2) (C := evd_168) (S := S_c249) (I := I_c249) (fuel := 4000) hen ei_168 (e2_fa ((hh _ hm_c4).mono (by decide)) (e2_fa ((cs_c240 hen l).mono (by decide)) (e2_fa (cs_c245 hen l hh) e2_fz))) (e2_fa ein_102 (e2_fa ein_160 e2_fz)) (by decide) co_c249 fun M d _ hC hcall p e R s m args below meth c Q D cA A ads r0 ha hl0 => ?_
  have L_0 : e2_gdM M p l e R s m args below meth c Q D cA A ads r0 30 al_c249_0 [] E_c249_0 h_c249_0 := by
    refine e2_indL (u := 2) (j := 3) (lo := 2147483648) (hi := 2147483668) (b := 2) (dd := 0) hl0 (by decide) rfl rfl (Or.inr ⟨rfl, rfl⟩) rfl ci_c249_0 cj_c249_0 ?_
    intro r_0 k_0 hk_0 hp_0 hs_0 hn_0
    have hl_0 : r_0.length ≤ 3 := hs_0.len rfl
    have ha_0 := ha.ext hp_0
    exact e2_fromM hen ha_0 hcall (e2_cutA_ok (e2_fa (fun al st E h hc => hn_0 al st E h hc) e2_fz)) (hC []) (X := e2x_168) ex2_168 30 ck_c249_0
  have EN_0 := e2_entL (u := 2) (j := 3) (lo := 2147483648) (hi := 2147483668) hl0 rfl rfl rfl ci_c249_0 cj_c249_0 L_0
  exact e2_from hen ha hcall (e2_cutA_ok (e2_fa (fun al st E h hc => EN_0 al st E h hc) e2_fz)) (hC []) (X := e2x_168) ex2_168 0 ck_c249_e
/-! c250 X9_year -/
def as_c250 : List ev_V := [(2, 0, 0)]
def E_c250 : e2_E := [(2147483648, 2147583648, 0, 0), (2147483652, 2147483668, 1, 0)]
def cn1241 : e2_Q3 := (cn48, cn1151)
def cn1242 : e2_Q4 := (cn1241, cn482)
def cn1243 : e2_Q5 := (cn1052, cn1242)
def cn1244 : e2_Q6 := (cn1222, cn1243)
def cn1245 : e2_Q7 := (cn1244, cn1225)
def cn1246 : e2_Q3 := (cn175, cn1164)
def cn1247 : e2_Q4 := (cn1246, cn494)
def cn1248 : e2_Q5 := (cn1059, cn1247)
def cn1249 : e2_Q6 := (cn1192, cn1248)
def cn1250 : e2_Q7 := (cn1249, cn1231)
def cn1251 : e2_Q8 := (cn1245, cn1250)
noncomputable def f_c250 : ev_H := (cn1251 : e2_Q8)
noncomputable def q_c250_0 : ev_H := (cn1251 : e2_Q8)
noncomputable def rs_c250 : e2_Rs := [((11, 2147483646, 2147483668), q_c250_0)]
noncomputable def s_c250 : e2_Sm := (132, as_c250, E_c250, f_c250, rs_c250)
noncomputable def S_c250 : List e2_Sm := [s_c249]
noncomputable def I_c250 : List e2_In := [(9, 4, e2x_9), (35, 2, e2x_35), (36, 1, e2x_36)]
set_option maxRecDepth 1000000 in
theorem ck_c250 : e2_run (e2_cal S_c250 I_c250 4000 2) (e2_fin rs_c250) e2x_132 (fun _ => false) (fun _ _ _ _ _ => false) 4000 (e2_seek e2x_132 0) (e2_al 2 as_c250) [] E_c250 f_c250 = true := by decide +kernel
set_option maxRecDepth 1000000 in
theorem co_c250 : e2_okSB E_c250.length as_c250 f_c250 rs_c250 = true := by decide +kernel
theorem cs_c250 (hen : en_ok) (l : Launch) (hh : e2_hand_c l) : e2_smOk l 67 s_c250 := e2_con0 (H := 64) (n := 2) (C := evd_132) (S := S_c250) (I := I_c250) (fuel := 4000) [] hen ei_132 (e2_fa (cs_c249 hen l hh) e2_fz) (e2_fa ein_9 (e2_fa ein_35 (e2_fa ein_36 e2_fz))) (by decide) co_c250 ex2_132 ck_c250
