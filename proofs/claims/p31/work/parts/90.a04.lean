/-! CONTRACTS a, printed by a program -/
/-! a230 X4_worstReply -/
def as_a230 : List ev_V := [(2, 59, 0), (11, 2147483648, 2147483651), (11, 0, 4294967295), (11, 0, 4294967295)]
def E_a230 : e2_E := [(2147483648, 2147583648, 0, 0), (2147483652, 2147483668, 1, 0)]
noncomputable def f_a230 : ev_H := (an877 : e2_Q8)
noncomputable def q_a230_0 : ev_H := (an877 : e2_Q8)
noncomputable def rs_a230 : e2_Rs := [((11, 2147483647, 2147483667), q_a230_0)]
noncomputable def s_a230 : e2_Sm := (85, as_a230, E_a230, f_a230, rs_a230)
noncomputable def S_a230 : List e2_Sm := [s_a195]
noncomputable def I_a230 : List e2_In := [(159, 2, e2x_159)]
set_option maxRecDepth 1000000 in
theorem co_a230 : e2_okSB E_a230.length as_a230 f_a230 rs_a230 = true := by decide +kernel
def al_a230_0 : List ev_V := [(2, 59, 0), (11, 2147483648, 2147483651), (11, 0, 4294967295), (11, 0, 4294967295), (11, 2147483647, 2147483667), (11, 0, 4294967295), (1, 2, 4294967296), (9, 0, 0)]
def E_a230_0 : e2_E := [(2147483648, 2147583648, 0, 0), (2147483652, 2147483668, 1, 0), (2147483648, 2147483668, 2, 0)]
noncomputable def h_a230_0 : ev_H := (an877 : e2_Q8)
noncomputable def cl_a230_e : List (Nat × e2_S) := [(9, e2_cutL (al_a230_0.set 6 (11, 2147483648, 2147483668)) 2 (E_a230_0.take 2) h_a230_0)]
set_option maxRecDepth 1000000 in
theorem ck_a230_e : e2_run (e2_cal S_a230 I_a230 4000 1) (e2_fin rs_a230) e2x_85 (e2_bpL cl_a230_e) (e2_cutA cl_a230_e) 4000 (e2_seek e2x_85 0) (e2_al 8 as_a230) [] E_a230 f_a230 = true := by decide +kernel
noncomputable def cl_a230_0 : List (Nat × e2_S) := [(9, e2_cutL (al_a230_0.set 6 (13, 10, 2147483668)) 2 (E_a230_0.take 2) h_a230_0)]
set_option maxRecDepth 1000000 in
theorem ck_a230_0 : e2_runM (e2_cal S_a230 I_a230 4000 1) (e2_fin rs_a230) e2x_85 (e2_bpL cl_a230_0) (e2_cutA cl_a230_0) 4000 (e2_seek e2x_85 9) al_a230_0 [] E_a230_0 h_a230_0 = true := by decide +kernel
set_option maxRecDepth 1000000 in
theorem ci_a230_0 : e2_idl 2 (al_a230_0.set 6 (9, 0, 0)) = true := by decide +kernel
set_option maxRecDepth 1000000 in
theorem cj_a230_0 : e2_idh 2 8 h_a230_0 = true := by decide +kernel
theorem cs_a230 (hen : en_ok) (l : Launch) (hh : e2_hand_a l) : e2_smOk l 63 s_a230 := by
  refine e2_conG (H := 61) (n := 1) (C := evd_85) (S := S_a230) (I := I_a230) (fuel := 4000) hen ei_85 (e2_fa (cs_a195 hen l hh) e2_fz) (e2_fa ein_159 e2_fz) (by decide) co_a230 fun M d _ hC hcall p e R s m args below meth c Q D cA A ads r0 ha hl0 => ?_
  have L_0 : e2_gdM M p l e R s m args below meth c Q D cA A ads r0 9 al_a230_0 [] E_a230_0 h_a230_0 := by
    refine e2_indL (u := 2) (j := 6) (lo := 2147483648) (hi := 2147483668) (b := 2) (dd := 0) hl0 (by decide) rfl rfl (Or.inr ⟨rfl, rfl⟩) rfl ci_a230_0 cj_a230_0 ?_
    intro r_0 k_0 hk_0 hp_0 hs_0 hn_0
    have hl_0 : r_0.length ≤ 3 := hs_0.len rfl
    have ha_0 := ha.ext hp_0
    exact e2_fromM hen ha_0 hcall (e2_cutA_ok (e2_fa (fun al st E h hc => hn_0 al st E h hc) e2_fz)) (hC []) (X := e2x_85) ex2_85 9 ck_a230_0
  have EN_0 := e2_entL (u := 2) (j := 6) (lo := 2147483648) (hi := 2147483668) hl0 rfl rfl rfl ci_a230_0 cj_a230_0 L_0
  exact e2_from hen ha hcall (e2_cutA_ok (e2_fa (fun al st E h hc => EN_0 al st E h hc) e2_fz)) (hC []) (X := e2x_85) ex2_85 0 ck_a230_e
/-! a231 X4_worstReply -/
def as_a231 : List ev_V := [(2, 59, 0), (11, 2147483648, 2147483651), (11, 0, 4294967295), (11, 0, 4294967295)]
def E_a231 : e2_E := [(2147483648, 2147583648, 0, 0), (2147483652, 2147483668, 1, 0)]
noncomputable def f_a231 : ev_H := (an870 : e2_Q8)
noncomputable def q_a231_0 : ev_H := (an877 : e2_Q8)
noncomputable def q_a231_1 : ev_H := (an870 : e2_Q8)
noncomputable def rs_a231 : e2_Rs := [((11, 2147483648, 2147483667), q_a231_0), ((0, 4294967295, 0), q_a231_1)]
noncomputable def s_a231 : e2_Sm := (85, as_a231, E_a231, f_a231, rs_a231)
noncomputable def S_a231 : List e2_Sm := [s_a194, s_a195]
noncomputable def I_a231 : List e2_In := [(159, 2, e2x_159)]
set_option maxRecDepth 1000000 in
theorem co_a231 : e2_okSB E_a231.length as_a231 f_a231 rs_a231 = true := by decide +kernel
def al_a231_0 : List ev_V := [(2, 59, 0), (11, 2147483648, 2147483651), (11, 0, 4294967295), (11, 0, 4294967295), (11, 2147483648, 2147483667), (11, 0, 4294967295), (1, 2, 4294967296), (11, 0, 4294967295)]
def E_a231_0 : e2_E := [(2147483648, 2147583648, 0, 0), (2147483652, 2147483668, 1, 0), (2147483649, 2147483668, 2, 0)]
noncomputable def h_a231_0 : ev_H := (an877 : e2_Q8)
def al_a231_1 : List ev_V := [(2, 59, 0), (11, 2147483648, 2147483651), (11, 0, 4294967295), (11, 0, 4294967295), (0, 4294967295, 0), (0, 0, 0), (1, 2, 4294967296), (9, 0, 0)]
def E_a231_1 : e2_E := [(2147483648, 2147583648, 0, 0), (2147483652, 2147483668, 1, 0), (2147483648, 2147483668, 2, 0)]
noncomputable def h_a231_1 : ev_H := (an870 : e2_Q8)
noncomputable def cl_a231_e : List (Nat × e2_S) := [(9, e2_cutL (al_a231_1.set 6 (11, 2147483648, 2147483668)) 2 (E_a231_1.take 2) h_a231_1)]
set_option maxRecDepth 1000000 in
theorem ck_a231_e : e2_run (e2_cal S_a231 I_a231 4000 1) (e2_fin rs_a231) e2x_85 (e2_bpL cl_a231_e) (e2_cutA cl_a231_e) 4000 (e2_seek e2x_85 0) (e2_al 8 as_a231) [] E_a231 f_a231 = true := by decide +kernel
noncomputable def cl_a231_0 : List (Nat × e2_S) := [(9, e2_cutL (al_a231_0.set 6 (13, 10, 2147483668)) 2 (E_a231_0.take 2) h_a231_0)]
set_option maxRecDepth 1000000 in
theorem ck_a231_0 : e2_runM (e2_cal S_a231 I_a231 4000 1) (e2_fin rs_a231) e2x_85 (e2_bpL cl_a231_0) (e2_cutA cl_a231_0) 4000 (e2_seek e2x_85 9) al_a231_0 [] E_a231_0 h_a231_0 = true := by decide +kernel
set_option maxRecDepth 1000000 in
theorem ci_a231_0 : e2_idl 2 (al_a231_0.set 6 (9, 0, 0)) = true := by decide +kernel
set_option maxRecDepth 1000000 in
theorem cj_a231_0 : e2_idh 2 8 h_a231_0 = true := by decide +kernel
noncomputable def cl_a231_1 : List (Nat × e2_S) := [(9, e2_cutL (al_a231_0.set 6 (11, 2147483649, 2147483668)) 2 (E_a231_0.take 2) h_a231_0),
  (9, e2_cutL (al_a231_1.set 6 (13, 10, 2147483668)) 2 (E_a231_1.take 2) h_a231_1)]
set_option maxRecDepth 1000000 in
theorem ck_a231_1 : e2_runM (e2_cal S_a231 I_a231 4000 1) (e2_fin rs_a231) e2x_85 (e2_bpL cl_a231_1) (e2_cutA cl_a231_1) 4000 (e2_seek e2x_85 9) al_a231_1 [] E_a231_1 h_a231_1 = true := by decide +kernel
set_option maxRecDepth 1000000 in
theorem ci_a231_1 : e2_idl 2 (al_a231_1.set 6 (9, 0, 0)) = true := by decide +kernel
set_option maxRecDepth 1000000 in
theorem cj_a231_1 : e2_idh 2 8 h_a231_1 = true := by decide +kernel
theorem cs_a231 (hen : en_ok) (l : Launch) (hh : e2_hand_a l) : e2_smOk l 63 s_a231 := by
  refine e2_conG (H := 61) (n := 1) (C := evd_85) (S := S_a231) (I := I_a231) (fuel := 4000) hen ei_85 (e2_fa (cs_a194 hen l hh) (e2_fa (cs_a195 hen l hh) e2_fz)) (e2_fa ein_159 e2_fz) (by decide) co_a231 fun M d _ hC hcall p e R s m args below meth c Q D cA A ads r0 ha hl0 => ?_
  have L_0 : e2_gdM M p l e R s m args below meth c Q D cA A ads r0 9 al_a231_0 [] E_a231_0 h_a231_0 := by
    refine e2_indL (u := 2) (j := 6) (lo := 2147483649) (hi := 2147483668) (b := 2) (dd := 0) hl0 (by decide) rfl rfl (Or.inr ⟨rfl, rfl⟩) rfl ci_a231_0 cj_a231_0 ?_
    intro r_0 k_0 hk_0 hp_0 hs_0 hn_0
    have hl_0 : r_0.length ≤ 3 := hs_0.len rfl
    have ha_0 := ha.ext hp_0
    exact e2_fromM hen ha_0 hcall (e2_cutA_ok (e2_fa (fun al st E h hc => hn_0 al st E h hc) e2_fz)) (hC []) (X := e2x_85) ex2_85 9 ck_a231_0
  have EN_0 := e2_entL (u := 2) (j := 6) (lo := 2147483649) (hi := 2147483668) hl0 rfl rfl rfl ci_a231_0 cj_a231_0 L_0
  have L_1 : e2_gdM M p l e R s m args below meth c Q D cA A ads r0 9 al_a231_1 [] E_a231_1 h_a231_1 := by
    refine e2_indL (u := 2) (j := 6) (lo := 2147483648) (hi := 2147483668) (b := 2) (dd := 0) hl0 (by decide) rfl rfl (Or.inr ⟨rfl, rfl⟩) rfl ci_a231_1 cj_a231_1 ?_
    intro r_1 k_1 hk_1 hp_1 hs_1 hn_1
    have hl_1 : r_1.length ≤ 3 := hs_1.len rfl
    have ha_1 := ha.ext hp_1
    exact e2_fromM hen ha_1 hcall (e2_cutA_ok (e2_fa (fun al st E h hc => (EN_0 al st E h hc).ext hp_1) (e2_fa (fun al st E h hc => hn_1 al st E h hc) e2_fz))) (hC []) (X := e2x_85) ex2_85 9 ck_a231_1
  have EN_1 := e2_entL (u := 2) (j := 6) (lo := 2147483648) (hi := 2147483668) hl0 rfl rfl rfl ci_a231_1 cj_a231_1 L_1
  exact e2_from hen ha hcall (e2_cutA_ok (e2_fa (fun al st E h hc => EN_1 al st E h hc) e2_fz)) (hC []) (X := e2x_85) ex2_85 0 ck_a231_e
/-! a232 X4_fight -/
def as_a232 : List ev_V := [(2, 59, 0), (11, 2147483648, 2147483651), (11, 0, 4294967295), (11, 0, 4294967295), (11, 2147483648, 2147483650)]
def E_a232 : e2_E := [(2147483648, 2147583648, 0, 0), (2147483652, 2147483668, 1, 0)]
noncomputable def f_a232 : ev_H := (an870 : e2_Q8)
noncomputable def q_a232_0 : ev_H := (an877 : e2_Q8)
noncomputable def q_a232_1 : ev_H := (an870 : e2_Q8)
noncomputable def rs_a232 : e2_Rs := [((11, 0, 4294967295), q_a232_0), ((11, 2147483647, 2147483648), q_a232_1)]
noncomputable def s_a232 : e2_Sm := (84, as_a232, E_a232, f_a232, rs_a232)
noncomputable def S_a232 : List e2_Sm := [s_a194, s_a195, s_a230, s_a231]
noncomputable def I_a232 : List e2_In := [(159, 2, e2x_159)]
set_option maxRecDepth 1000000 in
theorem co_a232 : e2_okSB E_a232.length as_a232 f_a232 rs_a232 = true := by decide +kernel
def al_a232_0 : List ev_V := [(2, 59, 0), (11, 2147483648, 2147483651), (11, 0, 4294967295), (11, 0, 4294967295), (11, 2147483648, 2147483650), (11, 2147483648, 2147483667), (11, 2147483647, 2147483667), (11, 0, 4294967295), (1, 2, 4294967296), (11, 2147483647, 2147483667), (11, 0, 4294967295)]
def E_a232_0 : e2_E := [(2147483648, 2147583648, 0, 0), (2147483652, 2147483668, 1, 0), (2147483649, 2147483668, 2, 0)]
noncomputable def h_a232_0 : ev_H := (an877 : e2_Q8)
def al_a232_1 : List ev_V := [(2, 59, 0), (11, 2147483648, 2147483651), (11, 0, 4294967295), (11, 0, 4294967295), (11, 2147483648, 2147483650), (0, 4294967295, 0), (0, 4294967295, 0), (0, 0, 0), (1, 2, 4294967296), (9, 0, 0), (9, 0, 0)]
def E_a232_1 : e2_E := [(2147483648, 2147583648, 0, 0), (2147483652, 2147483668, 1, 0), (2147483648, 2147483668, 2, 0)]
noncomputable def h_a232_1 : ev_H := (an870 : e2_Q8)
noncomputable def cl_a232_e : List (Nat × e2_S) := [(12, e2_cutL (al_a232_1.set 8 (11, 2147483648, 2147483668)) 2 (E_a232_1.take 2) h_a232_1)]
set_option maxRecDepth 1000000 in
theorem ck_a232_e : e2_run (e2_cal S_a232 I_a232 4000 1) (e2_fin rs_a232) e2x_84 (e2_bpL cl_a232_e) (e2_cutA cl_a232_e) 4000 (e2_seek e2x_84 0) (e2_al 11 as_a232) [] E_a232 f_a232 = true := by decide +kernel
noncomputable def cl_a232_0 : List (Nat × e2_S) := [(12, e2_cutL (al_a232_0.set 8 (13, 10, 2147483668)) 2 (E_a232_0.take 2) h_a232_0)]
set_option maxRecDepth 1000000 in
theorem ck_a232_0 : e2_runM (e2_cal S_a232 I_a232 4000 1) (e2_fin rs_a232) e2x_84 (e2_bpL cl_a232_0) (e2_cutA cl_a232_0) 4000 (e2_seek e2x_84 12) al_a232_0 [] E_a232_0 h_a232_0 = true := by decide +kernel
set_option maxRecDepth 1000000 in
theorem ci_a232_0 : e2_idl 2 (al_a232_0.set 8 (9, 0, 0)) = true := by decide +kernel
set_option maxRecDepth 1000000 in
theorem cj_a232_0 : e2_idh 2 8 h_a232_0 = true := by decide +kernel
noncomputable def cl_a232_1 : List (Nat × e2_S) := [(12, e2_cutL (al_a232_0.set 8 (11, 2147483649, 2147483668)) 2 (E_a232_0.take 2) h_a232_0),
  (12, e2_cutL (al_a232_1.set 8 (13, 10, 2147483668)) 2 (E_a232_1.take 2) h_a232_1)]
set_option maxRecDepth 1000000 in
theorem ck_a232_1 : e2_runM (e2_cal S_a232 I_a232 4000 1) (e2_fin rs_a232) e2x_84 (e2_bpL cl_a232_1) (e2_cutA cl_a232_1) 4000 (e2_seek e2x_84 12) al_a232_1 [] E_a232_1 h_a232_1 = true := by decide +kernel
set_option maxRecDepth 1000000 in
theorem ci_a232_1 : e2_idl 2 (al_a232_1.set 8 (9, 0, 0)) = true := by decide +kernel
set_option maxRecDepth 1000000 in
theorem cj_a232_1 : e2_idh 2 8 h_a232_1 = true := by decide +kernel
theorem cs_a232 (hen : en_ok) (l : Launch) (hh : e2_hand_a l) : e2_smOk l 65 s_a232 := by
  refine e2_conG (H := 63) (n := 1) (C := evd_84) (S := S_a232) (I := I_a232) (fuel := 4000) hen ei_84 (e2_fa ((cs_a194 hen l hh).mono (by decide)) (e2_fa ((cs_a195 hen l hh).mono (by decide)) (e2_fa (cs_a230 hen l hh) (e2_fa (cs_a231 hen l hh) e2_fz)))) (e2_fa ein_159 e2_fz) (by decide) co_a232 fun M d _ hC hcall p e R s m args below meth c Q D cA A ads r0 ha hl0 => ?_
  have L_0 : e2_gdM M p l e R s m args below meth c Q D cA A ads r0 12 al_a232_0 [] E_a232_0 h_a232_0 := by
    refine e2_indL (u := 2) (j := 8) (lo := 2147483649) (hi := 2147483668) (b := 2) (dd := 0) hl0 (by decide) rfl rfl (Or.inr ⟨rfl, rfl⟩) rfl ci_a232_0 cj_a232_0 ?_
    intro r_0 k_0 hk_0 hp_0 hs_0 hn_0
    have hl_0 : r_0.length ≤ 3 := hs_0.len rfl
    have ha_0 := ha.ext hp_0
    exact e2_fromM hen ha_0 hcall (e2_cutA_ok (e2_fa (fun al st E h hc => hn_0 al st E h hc) e2_fz)) (hC []) (X := e2x_84) ex2_84 12 ck_a232_0
  have EN_0 := e2_entL (u := 2) (j := 8) (lo := 2147483649) (hi := 2147483668) hl0 rfl rfl rfl ci_a232_0 cj_a232_0 L_0
  have L_1 : e2_gdM M p l e R s m args below meth c Q D cA A ads r0 12 al_a232_1 [] E_a232_1 h_a232_1 := by
    refine e2_indL (u := 2) (j := 8) (lo := 2147483648) (hi := 2147483668) (b := 2) (dd := 0) hl0 (by decide) rfl rfl (Or.inr ⟨rfl, rfl⟩) rfl ci_a232_1 cj_a232_1 ?_
    intro r_1 k_1 hk_1 hp_1 hs_1 hn_1
    have hl_1 : r_1.length ≤ 3 := hs_1.len rfl
    have ha_1 := ha.ext hp_1
    exact e2_fromM hen ha_1 hcall (e2_cutA_ok (e2_fa (fun al st E h hc => (EN_0 al st E h hc).ext hp_1) (e2_fa (fun al st E h hc => hn_1 al st E h hc) e2_fz))) (hC []) (X := e2x_84) ex2_84 12 ck_a232_1
  have EN_1 := e2_entL (u := 2) (j := 8) (lo := 2147483648) (hi := 2147483668) hl0 rfl rfl rfl ci_a232_1 cj_a232_1 L_1
  exact e2_from hen ha hcall (e2_cutA_ok (e2_fa (fun al st E h hc => EN_1 al st E h hc) e2_fz)) (hC []) (X := e2x_84) ex2_84 0 ck_a232_e
/-! a233 X5_weighEverywhere -/
def as_a233 : List ev_V := [(2, 47, 0), (11, 2147483648, 2147483655), (11, 0, 4294967295)]
def E_a233 : e2_E := [(2147483648, 2147583648, 0, 0), (2147483652, 2147483668, 1, 0)]
def an1037 : e2_Q5 := (an281, an29)
def an1038 : e2_Q4 := (an289, an44)
def an1039 : e2_Q5 := (an1038, an480)
def an1040 : e2_Q6 := (an1037, an1039)
def an1041 : e2_Q5 := (an302, an92)
def an1042 : e2_Q6 := (an1041, an688)
def an1043 : e2_Q7 := (an1040, an1042)
def an1044 : e2_Q4 := (an323, an486)
def an1045 : e2_Q5 := (an1044, an156)
def an1046 : e2_Q5 := (an338, an492)
def an1047 : e2_Q6 := (an1045, an1046)
def an1048 : e2_Q5 := (an343, an498)
def an1049 : e2_Q5 := (an417, an353)
def an1050 : e2_Q6 := (an1048, an1049)
def an1051 : e2_Q7 := (an1047, an1050)
def an1052 : e2_Q8 := (an1043, an1051)
noncomputable def f_a233 : ev_H := (an1052 : e2_Q8)
noncomputable def q_a233_0 : ev_H := (an1052 : e2_Q8)
noncomputable def rs_a233 : e2_Rs := [((9, 0, 0), q_a233_0)]
noncomputable def s_a233 : e2_Sm := (87, as_a233, E_a233, f_a233, rs_a233)
noncomputable def S_a233 : List e2_Sm := [s_a10]
noncomputable def I_a233 : List e2_In := [(121, 5, e2x_121), (160, 2, e2x_160)]
set_option maxRecDepth 1000000 in
theorem co_a233 : e2_okSB E_a233.length as_a233 f_a233 rs_a233 = true := by decide +kernel
def al_a233_0 : List ev_V := [(2, 47, 0), (11, 2147483648, 2147483655), (11, 0, 4294967295), (1, 2, 4294967296)]
def E_a233_0 : e2_E := [(2147483648, 2147583648, 0, 0), (2147483652, 2147483668, 1, 0), (2147483648, 2147483668, 2, 0)]
noncomputable def h_a233_0 : ev_H := (an1052 : e2_Q8)
noncomputable def cl_a233_e : List (Nat × e2_S) := [(2, e2_cutL (al_a233_0.set 3 (11, 2147483648, 2147483668)) 2 (E_a233_0.take 2) h_a233_0)]
set_option maxRecDepth 1000000 in
theorem ck_a233_e : e2_run (e2_cal S_a233 I_a233 4000 1) (e2_fin rs_a233) e2x_87 (e2_bpL cl_a233_e) (e2_cutA cl_a233_e) 4000 (e2_seek e2x_87 0) (e2_al 4 as_a233) [] E_a233 f_a233 = true := by decide +kernel
noncomputable def cl_a233_0 : List (Nat × e2_S) := [(2, e2_cutL (al_a233_0.set 3 (13, 10, 2147483668)) 2 (E_a233_0.take 2) h_a233_0)]
set_option maxRecDepth 1000000 in
theorem ck_a233_0 : e2_runM (e2_cal S_a233 I_a233 4000 1) (e2_fin rs_a233) e2x_87 (e2_bpL cl_a233_0) (e2_cutA cl_a233_0) 4000 (e2_seek e2x_87 2) al_a233_0 [] E_a233_0 h_a233_0 = true := by decide +kernel
set_option maxRecDepth 1000000 in
theorem ci_a233_0 : e2_idl 2 (al_a233_0.set 3 (9, 0, 0)) = true := by decide +kernel
set_option maxRecDepth 1000000 in
theorem cj_a233_0 : e2_idh 2 8 h_a233_0 = true := by decide +kernel
theorem cs_a233 (hen : en_ok) (l : Launch) : e2_smOk l 4 s_a233 := by
  refine e2_conG (H := 2) (n := 1) (C := evd_87) (S := S_a233) (I := I_a233) (fuel := 4000) hen ei_87 (e2_fa (cs_a10 hen l) e2_fz) (e2_fa ein_121 (e2_fa ein_160 e2_fz)) (by decide) co_a233 fun M d _ hC hcall p e R s m args below meth c Q D cA A ads r0 ha hl0 => ?_
  have L_0 : e2_gdM M p l e R s m args below meth c Q D cA A ads r0 2 al_a233_0 [] E_a233_0 h_a233_0 := by
    refine e2_indL (u := 2) (j := 3) (lo := 2147483648) (hi := 2147483668) (b := 2) (dd := 0) hl0 (by decide) rfl rfl (Or.inr ⟨rfl, rfl⟩) rfl ci_a233_0 cj_a233_0 ?_
    intro r_0 k_0 hk_0 hp_0 hs_0 hn_0
    have hl_0 : r_0.length ≤ 3 := hs_0.len rfl
    have ha_0 := ha.ext hp_0
    exact e2_fromM hen ha_0 hcall (e2_cutA_ok (e2_fa (fun al st E h hc => hn_0 al st E h hc) e2_fz)) (hC []) (X := e2x_87) ex2_87 2 ck_a233_0
  have EN_0 := e2_entL (u := 2) (j := 3) (lo := 2147483648) (hi := 2147483668) hl0 rfl rfl rfl ci_a233_0 cj_a233_0 L_0
  exact e2_from hen ha hcall (e2_cutA_ok (e2_fa (fun al st E h hc => EN_0 al st E h hc) e2_fz)) (hC []) (X := e2x_87) ex2_87 0 ck_a233_e
/-! a234 X5_begin -/
def as_a234 : List ev_V := [(2, 47, 0), (2, 1, 0), (2, 36, 0), (11, 0, 4294967295)]
def E_a234 : e2_E := [(2147483648, 2147583648, 0, 0), (2147483652, 2147483668, 1, 0)]
def an1053 : e2_Q4 := (an787, an292)
def an1054 : e2_Q5 := (an1053, an480)
def an1055 : e2_Q6 := (an1037, an1054)
def an1056 : e2_Q4 := (an298, an392)
def an1057 : e2_Q5 := (an1056, an92)
def an1058 : e2_Q6 := (an1057, an318)
def an1059 : e2_Q7 := (an1055, an1058)
def an1060 : e2_Q3 := (an333, an463)
def an1061 : e2_Q4 := (an1060, an337)
def an1062 : e2_Q5 := (an1061, an492)
def an1063 : e2_Q6 := (an1045, an1062)
def ac196 : ev_C := (5, [(2, 50, 0), (11, 0, 4294967295), (2, 51, 0), (2, 54, 0), (7, 0, 0), (2, 52, 0), (11, 2147483648, 2147483649), (2, 49, 0), (11, 2147483648, 2147483668), (2, 53, 0), (2, 48, 0), (2, 55, 0), (2, 56, 0), (2, 57, 0), (2, 58, 0)])
def an1064 : e2_Q1 := (ac196, ac3)
def an1065 : e2_Q2 := (an1064, an240)
def an1066 : e2_Q3 := (an238, an1065)
def an1067 : e2_Q4 := (an1066, an249)
def an1068 : e2_Q5 := (an807, an1067)
def an1069 : e2_Q6 := (an1048, an1068)
def an1070 : e2_Q7 := (an1063, an1069)
def an1071 : e2_Q8 := (an1059, an1070)
noncomputable def f_a234 : ev_H := (an1071 : e2_Q8)
def an1072 : e2_Q6 := (an1041, an318)
def an1073 : e2_Q7 := (an1055, an1072)
def an1074 : e2_Q5 := (an807, an353)
def an1075 : e2_Q6 := (an1048, an1074)
def an1076 : e2_Q7 := (an1063, an1075)
def an1077 : e2_Q8 := (an1073, an1076)
noncomputable def q_a234_0 : ev_H := (an1077 : e2_Q8)
noncomputable def rs_a234 : e2_Rs := [((9, 0, 0), q_a234_0)]
noncomputable def s_a234 : e2_Sm := (86, as_a234, E_a234, f_a234, rs_a234)
noncomputable def S_a234 : List e2_Sm := [s_a233]
noncomputable def I_a234 : List e2_In := []
set_option maxRecDepth 1000000 in
theorem co_a234 : e2_okSB E_a234.length as_a234 f_a234 rs_a234 = true := by decide +kernel
def al_a234_0 : List ev_V := [(2, 47, 0), (2, 1, 0), (2, 36, 0), (11, 0, 4294967295), (1, 1, 4294967296), (1, 2, 4294967296)]
def E_a234_0 : e2_E := [(2147483648, 2147583648, 0, 0), (2147483652, 2147483668, 1, 0), (2147483648, 2147483656, 2, 0)]
noncomputable def h_a234_0 : ev_H := (an1077 : e2_Q8)
noncomputable def cl_a234_e : List (Nat × e2_S) := [(74, e2_cutL (al_a234_0.set 5 (11, 2147483648, 2147483656)) 2 (E_a234_0.take 2) h_a234_0)]
set_option maxRecDepth 1000000 in
theorem ck_a234_e : e2_run (e2_cal S_a234 I_a234 4000 0) (e2_fin rs_a234) e2x_86 (e2_bpL cl_a234_e) (e2_cutA cl_a234_e) 4000 (e2_seek e2x_86 0) (e2_al 6 as_a234) [] E_a234 f_a234 = true := by decide +kernel
noncomputable def cl_a234_0 : List (Nat × e2_S) := [(74, e2_cutL (al_a234_0.set 5 (13, 10, 2147483656)) 2 (E_a234_0.take 2) h_a234_0)]
set_option maxRecDepth 1000000 in
theorem ck_a234_0 : e2_runM (e2_cal S_a234 I_a234 4000 0) (e2_fin rs_a234) e2x_86 (e2_bpL cl_a234_0) (e2_cutA cl_a234_0) 4000 (e2_seek e2x_86 74) al_a234_0 [] E_a234_0 h_a234_0 = true := by decide +kernel
set_option maxRecDepth 1000000 in
theorem ci_a234_0 : e2_idl 2 (al_a234_0.set 5 (9, 0, 0)) = true := by decide +kernel
set_option maxRecDepth 1000000 in
theorem cj_a234_0 : e2_idh 2 8 h_a234_0 = true := by decide +kernel
theorem cs_a234 (hen : en_ok) (l : Launch) : e2_smOk l 5 s_a234 := by
  refine e2_conG (H := 4) (n := 0) (C := evd_86) (S := S_a234) (I := I_a234) (fuel := 4000) hen ei_86 (e2_fa (cs_a233 hen l) e2_fz) e2_fz (by decide) co_a234 fun M d _ hC hcall p e R s m args below meth c Q D cA A ads r0 ha hl0 => ?_
  have L_0 : e2_gdM M p l e R s m args below meth c Q D cA A ads r0 74 al_a234_0 [] E_a234_0 h_a234_0 := by
    refine e2_indL (u := 2) (j := 5) (lo := 2147483648) (hi := 2147483656) (b := 2) (dd := 0) hl0 (by decide) rfl rfl (Or.inr ⟨rfl, rfl⟩) rfl ci_a234_0 cj_a234_0 ?_
    intro r_0 k_0 hk_0 hp_0 hs_0 hn_0
    have hl_0 : r_0.length ≤ 3 := hs_0.len rfl
    have ha_0 := ha.ext hp_0
    exact e2_fromM hen ha_0 hcall (e2_cutA_ok (e2_fa (fun al st E h hc => hn_0 al st E h hc) e2_fz)) (hC []) (X := e2x_86) ex2_86 74 ck_a234_0
  have EN_0 := e2_entL (u := 2) (j := 5) (lo := 2147483648) (hi := 2147483656) hl0 rfl rfl rfl ci_a234_0 cj_a234_0 L_0
  exact e2_from hen ha hcall (e2_cutA_ok (e2_fa (fun al st E h hc => EN_0 al st E h hc) e2_fz)) (hC []) (X := e2x_86) ex2_86 0 ck_a234_e
/-! a235 X5_begin -/
def as_a235 : List ev_V := [(2, 47, 0), (2, 1, 0), (2, 40, 0), (11, 0, 4294967295)]
def E_a235 : e2_E := [(2147483648, 2147583648, 0, 0), (2147483652, 2147483668, 1, 0)]
def ac197 : ev_C := (6, [(11, 0, 4294967295), (11, 0, 4294967295), (11, 0, 4294967295), (2, 42, 0), (2, 41, 0), (2, 43, 0)])
def an1078 : e2_Q1 := (ac197, ac3)
def an1079 : e2_Q2 := (an1078, an19)
def an1080 : e2_Q3 := (an17, an1079)
def an1081 : e2_Q4 := (an1080, an28)
def an1082 : e2_Q5 := (an281, an1081)
def an1083 : e2_Q5 := (an293, an480)
def an1084 : e2_Q6 := (an1082, an1083)
def an1085 : e2_Q7 := (an1084, an1058)
def an1086 : e2_Q2 := (an462, an146)
def an1087 : e2_Q3 := (an144, an1086)
def an1088 : e2_Q4 := (an1087, an155)
def an1089 : e2_Q5 := (an1044, an1088)
def an1090 : e2_Q6 := (an1089, an1046)
def an1091 : e2_Q7 := (an1090, an1069)
def an1092 : e2_Q8 := (an1085, an1091)
noncomputable def f_a235 : ev_H := (an1092 : e2_Q8)
def an1093 : e2_Q7 := (an1084, an1072)
def an1094 : e2_Q7 := (an1090, an1075)
def an1095 : e2_Q8 := (an1093, an1094)
noncomputable def q_a235_0 : ev_H := (an1095 : e2_Q8)
noncomputable def rs_a235 : e2_Rs := [((9, 0, 0), q_a235_0)]
noncomputable def s_a235 : e2_Sm := (86, as_a235, E_a235, f_a235, rs_a235)
noncomputable def S_a235 : List e2_Sm := [s_a233]
noncomputable def I_a235 : List e2_In := []
set_option maxRecDepth 1000000 in
theorem co_a235 : e2_okSB E_a235.length as_a235 f_a235 rs_a235 = true := by decide +kernel
def al_a235_0 : List ev_V := [(2, 47, 0), (2, 1, 0), (2, 40, 0), (11, 0, 4294967295), (1, 1, 4294967296), (1, 2, 4294967296)]
def E_a235_0 : e2_E := [(2147483648, 2147583648, 0, 0), (2147483652, 2147483668, 1, 0), (2147483648, 2147483656, 2, 0)]
noncomputable def h_a235_0 : ev_H := (an1095 : e2_Q8)
noncomputable def cl_a235_e : List (Nat × e2_S) := [(74, e2_cutL (al_a235_0.set 5 (11, 2147483648, 2147483656)) 2 (E_a235_0.take 2) h_a235_0)]
set_option maxRecDepth 1000000 in
theorem ck_a235_e : e2_run (e2_cal S_a235 I_a235 4000 0) (e2_fin rs_a235) e2x_86 (e2_bpL cl_a235_e) (e2_cutA cl_a235_e) 4000 (e2_seek e2x_86 0) (e2_al 6 as_a235) [] E_a235 f_a235 = true := by decide +kernel
noncomputable def cl_a235_0 : List (Nat × e2_S) := [(74, e2_cutL (al_a235_0.set 5 (13, 10, 2147483656)) 2 (E_a235_0.take 2) h_a235_0)]
set_option maxRecDepth 1000000 in
theorem ck_a235_0 : e2_runM (e2_cal S_a235 I_a235 4000 0) (e2_fin rs_a235) e2x_86 (e2_bpL cl_a235_0) (e2_cutA cl_a235_0) 4000 (e2_seek e2x_86 74) al_a235_0 [] E_a235_0 h_a235_0 = true := by decide +kernel
set_option maxRecDepth 1000000 in
theorem ci_a235_0 : e2_idl 2 (al_a235_0.set 5 (9, 0, 0)) = true := by decide +kernel
set_option maxRecDepth 1000000 in
theorem cj_a235_0 : e2_idh 2 8 h_a235_0 = true := by decide +kernel
theorem cs_a235 (hen : en_ok) (l : Launch) : e2_smOk l 5 s_a235 := by
  refine e2_conG (H := 4) (n := 0) (C := evd_86) (S := S_a235) (I := I_a235) (fuel := 4000) hen ei_86 (e2_fa (cs_a233 hen l) e2_fz) e2_fz (by decide) co_a235 fun M d _ hC hcall p e R s m args below meth c Q D cA A ads r0 ha hl0 => ?_
  have L_0 : e2_gdM M p l e R s m args below meth c Q D cA A ads r0 74 al_a235_0 [] E_a235_0 h_a235_0 := by
    refine e2_indL (u := 2) (j := 5) (lo := 2147483648) (hi := 2147483656) (b := 2) (dd := 0) hl0 (by decide) rfl rfl (Or.inr ⟨rfl, rfl⟩) rfl ci_a235_0 cj_a235_0 ?_
    intro r_0 k_0 hk_0 hp_0 hs_0 hn_0
    have hl_0 : r_0.length ≤ 3 := hs_0.len rfl
    have ha_0 := ha.ext hp_0
    exact e2_fromM hen ha_0 hcall (e2_cutA_ok (e2_fa (fun al st E h hc => hn_0 al st E h hc) e2_fz)) (hC []) (X := e2x_86) ex2_86 74 ck_a235_0
  have EN_0 := e2_entL (u := 2) (j := 5) (lo := 2147483648) (hi := 2147483656) hl0 rfl rfl rfl ci_a235_0 cj_a235_0 L_0
  exact e2_from hen ha hcall (e2_cutA_ok (e2_fa (fun al st E h hc => EN_0 al st E h hc) e2_fz)) (hC []) (X := e2x_86) ex2_86 0 ck_a235_e
/-! a236 X5_gainOf -/
def as_a236 : List ev_V := [(2, 47, 0), (11, 2147483648, 2147483651)]
def E_a236 : e2_E := [(2147483648, 2147583648, 0, 0), (2147483652, 2147483668, 1, 0)]
def an1096 : e2_Q6 := (an839, an61)
def an1097 : e2_Q4 := (an84, an307)
def an1098 : e2_Q5 := (an453, an1097)
def an1099 : e2_Q6 := (an1098, an124)
def an1100 : e2_Q7 := (an1096, an1099)
def an1101 : e2_Q5 := (an863, an372)
def an1102 : e2_Q6 := (an274, an1101)
def an1103 : e2_Q7 := (an936, an1102)
def an1104 : e2_Q8 := (an1100, an1103)
noncomputable def f_a236 : ev_H := (an1104 : e2_Q8)
noncomputable def q_a236_0 : ev_H := (an1104 : e2_Q8)
noncomputable def rs_a236 : e2_Rs := [((11, 0, 4294967295), q_a236_0)]
noncomputable def s_a236 : e2_Sm := (95, as_a236, E_a236, f_a236, rs_a236)
noncomputable def S_a236 : List e2_Sm := []
noncomputable def I_a236 : List e2_In := []
set_option maxRecDepth 1000000 in
theorem co_a236 : e2_okSB E_a236.length as_a236 f_a236 rs_a236 = true := by decide +kernel
def al_a236_0 : List ev_V := [(2, 47, 0), (11, 2147483648, 2147483651), (11, 0, 4294967295), (1, 2, 4294967296)]
def E_a236_0 : e2_E := [(2147483648, 2147583648, 0, 0), (2147483652, 2147483668, 1, 0), (2147483648, 2147483668, 2, 0)]
noncomputable def h_a236_0 : ev_H := (an1104 : e2_Q8)
noncomputable def cl_a236_e : List (Nat × e2_S) := [(4, e2_cutL (al_a236_0.set 3 (11, 2147483648, 2147483668)) 2 (E_a236_0.take 2) h_a236_0)]
set_option maxRecDepth 1000000 in
theorem ck_a236_e : e2_run (e2_cal S_a236 I_a236 4000 0) (e2_fin rs_a236) e2x_95 (e2_bpL cl_a236_e) (e2_cutA cl_a236_e) 4000 (e2_seek e2x_95 0) (e2_al 4 as_a236) [] E_a236 f_a236 = true := by decide +kernel
noncomputable def cl_a236_0 : List (Nat × e2_S) := [(4, e2_cutL (al_a236_0.set 3 (13, 10, 2147483668)) 2 (E_a236_0.take 2) h_a236_0)]
set_option maxRecDepth 1000000 in
theorem ck_a236_0 : e2_runM (e2_cal S_a236 I_a236 4000 0) (e2_fin rs_a236) e2x_95 (e2_bpL cl_a236_0) (e2_cutA cl_a236_0) 4000 (e2_seek e2x_95 4) al_a236_0 [] E_a236_0 h_a236_0 = true := by decide +kernel
set_option maxRecDepth 1000000 in
theorem ci_a236_0 : e2_idl 2 (al_a236_0.set 3 (9, 0, 0)) = true := by decide +kernel
set_option maxRecDepth 1000000 in
theorem cj_a236_0 : e2_idh 2 8 h_a236_0 = true := by decide +kernel
theorem cs_a236 (hen : en_ok) (l : Launch) : e2_smOk l 1 s_a236 := by
  refine e2_conG (H := 0) (n := 0) (C := evd_95) (S := S_a236) (I := I_a236) (fuel := 4000) hen ei_95 e2_fz e2_fz (by decide) co_a236 fun M d _ hC hcall p e R s m args below meth c Q D cA A ads r0 ha hl0 => ?_
  have L_0 : e2_gdM M p l e R s m args below meth c Q D cA A ads r0 4 al_a236_0 [] E_a236_0 h_a236_0 := by
    refine e2_indL (u := 2) (j := 3) (lo := 2147483648) (hi := 2147483668) (b := 2) (dd := 0) hl0 (by decide) rfl rfl (Or.inr ⟨rfl, rfl⟩) rfl ci_a236_0 cj_a236_0 ?_
    intro r_0 k_0 hk_0 hp_0 hs_0 hn_0
    have hl_0 : r_0.length ≤ 3 := hs_0.len rfl
    have ha_0 := ha.ext hp_0
    exact e2_fromM hen ha_0 hcall (e2_cutA_ok (e2_fa (fun al st E h hc => hn_0 al st E h hc) e2_fz)) (hC []) (X := e2x_95) ex2_95 4 ck_a236_0
  have EN_0 := e2_entL (u := 2) (j := 3) (lo := 2147483648) (hi := 2147483668) hl0 rfl rfl rfl ci_a236_0 cj_a236_0 L_0
  exact e2_from hen ha hcall (e2_cutA_ok (e2_fa (fun al st E h hc => EN_0 al st E h hc) e2_fz)) (hC []) (X := e2x_95) ex2_95 0 ck_a236_e
/-! a237 X5_takesAway -/
def as_a237 : List ev_V := [(2, 47, 0)]
def E_a237 : e2_E := [(2147483648, 2147583648, 0, 0), (2147483652, 2147483668, 1, 0)]
def an1105 : e2_Q5 := (an235, an372)
def an1106 : e2_Q6 := (an274, an1105)
def an1107 : e2_Q7 := (an936, an1106)
def an1108 : e2_Q8 := (an1100, an1107)
noncomputable def f_a237 : ev_H := (an1108 : e2_Q8)
noncomputable def q_a237_0 : ev_H := (an1108 : e2_Q8)
noncomputable def rs_a237 : e2_Rs := [((11, 2147483648, 2147483649), q_a237_0)]
noncomputable def s_a237 : e2_Sm := (96, as_a237, E_a237, f_a237, rs_a237)
noncomputable def S_a237 : List e2_Sm := []
noncomputable def I_a237 : List e2_In := []
set_option maxRecDepth 1000000 in
theorem co_a237 : e2_okSB E_a237.length as_a237 f_a237 rs_a237 = true := by decide +kernel
def al_a237_0 : List ev_V := [(2, 47, 0), (1, 2, 4294967296)]
def E_a237_0 : e2_E := [(2147483648, 2147583648, 0, 0), (2147483652, 2147483668, 1, 0), (2147483648, 2147483668, 2, 0)]
noncomputable def h_a237_0 : ev_H := (an1108 : e2_Q8)
noncomputable def cl_a237_e : List (Nat × e2_S) := [(2, e2_cutL (al_a237_0.set 1 (11, 2147483648, 2147483668)) 2 (E_a237_0.take 2) h_a237_0)]
set_option maxRecDepth 1000000 in
theorem ck_a237_e : e2_run (e2_cal S_a237 I_a237 4000 0) (e2_fin rs_a237) e2x_96 (e2_bpL cl_a237_e) (e2_cutA cl_a237_e) 4000 (e2_seek e2x_96 0) (e2_al 2 as_a237) [] E_a237 f_a237 = true := by decide +kernel
noncomputable def cl_a237_0 : List (Nat × e2_S) := [(2, e2_cutL (al_a237_0.set 1 (13, 10, 2147483668)) 2 (E_a237_0.take 2) h_a237_0)]
set_option maxRecDepth 1000000 in
theorem ck_a237_0 : e2_runM (e2_cal S_a237 I_a237 4000 0) (e2_fin rs_a237) e2x_96 (e2_bpL cl_a237_0) (e2_cutA cl_a237_0) 4000 (e2_seek e2x_96 2) al_a237_0 [] E_a237_0 h_a237_0 = true := by decide +kernel
set_option maxRecDepth 1000000 in
theorem ci_a237_0 : e2_idl 2 (al_a237_0.set 1 (9, 0, 0)) = true := by decide +kernel
set_option maxRecDepth 1000000 in
theorem cj_a237_0 : e2_idh 2 8 h_a237_0 = true := by decide +kernel
theorem cs_a237 (hen : en_ok) (l : Launch) : e2_smOk l 1 s_a237 := by
  refine e2_conG (H := 0) (n := 0) (C := evd_96) (S := S_a237) (I := I_a237) (fuel := 4000) hen ei_96 e2_fz e2_fz (by decide) co_a237 fun M d _ hC hcall p e R s m args below meth c Q D cA A ads r0 ha hl0 => ?_
  have L_0 : e2_gdM M p l e R s m args below meth c Q D cA A ads r0 2 al_a237_0 [] E_a237_0 h_a237_0 := by
    refine e2_indL (u := 2) (j := 1) (lo := 2147483648) (hi := 2147483668) (b := 2) (dd := 0) hl0 (by decide) rfl rfl (Or.inr ⟨rfl, rfl⟩) rfl ci_a237_0 cj_a237_0 ?_
    intro r_0 k_0 hk_0 hp_0 hs_0 hn_0
    have hl_0 : r_0.length ≤ 3 := hs_0.len rfl
    have ha_0 := ha.ext hp_0
    exact e2_fromM hen ha_0 hcall (e2_cutA_ok (e2_fa (fun al st E h hc => hn_0 al st E h hc) e2_fz)) (hC []) (X := e2x_96) ex2_96 2 ck_a237_0
  have EN_0 := e2_entL (u := 2) (j := 1) (lo := 2147483648) (hi := 2147483668) hl0 rfl rfl rfl ci_a237_0 cj_a237_0 L_0
  exact e2_from hen ha hcall (e2_cutA_ok (e2_fa (fun al st E h hc => EN_0 al st E h hc) e2_fz)) (hC []) (X := e2x_96) ex2_96 0 ck_a237_e
/-! a238 X5_cellsOf -/
def as_a238 : List ev_V := [(2, 47, 0), (11, 2147483648, 2147483655)]
def E_a238 : e2_E := [(2147483648, 2147583648, 0, 0), (2147483652, 2147483668, 1, 0)]
def an1109 : e2_Q7 := (an62, an1099)
def an1110 : e2_Q4 := (an148, an329)
def an1111 : e2_Q5 := (an141, an1110)
def an1112 : e2_Q6 := (an1111, an188)
def an1113 : e2_Q7 := (an1112, an1106)
def an1114 : e2_Q8 := (an1109, an1113)
noncomputable def f_a238 : ev_H := (an1114 : e2_Q8)
noncomputable def q_a238_0 : ev_H := (an1114 : e2_Q8)
noncomputable def rs_a238 : e2_Rs := [((11, 0, 4294967295), q_a238_0)]
noncomputable def s_a238 : e2_Sm := (97, as_a238, E_a238, f_a238, rs_a238)
noncomputable def S_a238 : List e2_Sm := []
noncomputable def I_a238 : List e2_In := []
set_option maxRecDepth 1000000 in
theorem co_a238 : e2_okSB E_a238.length as_a238 f_a238 rs_a238 = true := by decide +kernel
def al_a238_0 : List ev_V := [(2, 47, 0), (11, 2147483648, 2147483655), (11, 0, 4294967295), (1, 2, 4294967296)]
def E_a238_0 : e2_E := [(2147483648, 2147583648, 0, 0), (2147483652, 2147483668, 1, 0), (2147483648, 2147483668, 2, 0)]
noncomputable def h_a238_0 : ev_H := (an1114 : e2_Q8)
noncomputable def cl_a238_e : List (Nat × e2_S) := [(4, e2_cutL (al_a238_0.set 3 (11, 2147483648, 2147483668)) 2 (E_a238_0.take 2) h_a238_0)]
set_option maxRecDepth 1000000 in
theorem ck_a238_e : e2_run (e2_cal S_a238 I_a238 4000 0) (e2_fin rs_a238) e2x_97 (e2_bpL cl_a238_e) (e2_cutA cl_a238_e) 4000 (e2_seek e2x_97 0) (e2_al 4 as_a238) [] E_a238 f_a238 = true := by decide +kernel
noncomputable def cl_a238_0 : List (Nat × e2_S) := [(4, e2_cutL (al_a238_0.set 3 (13, 10, 2147483668)) 2 (E_a238_0.take 2) h_a238_0)]
set_option maxRecDepth 1000000 in
theorem ck_a238_0 : e2_runM (e2_cal S_a238 I_a238 4000 0) (e2_fin rs_a238) e2x_97 (e2_bpL cl_a238_0) (e2_cutA cl_a238_0) 4000 (e2_seek e2x_97 4) al_a238_0 [] E_a238_0 h_a238_0 = true := by decide +kernel
set_option maxRecDepth 1000000 in
theorem ci_a238_0 : e2_idl 2 (al_a238_0.set 3 (9, 0, 0)) = true := by decide +kernel
set_option maxRecDepth 1000000 in
theorem cj_a238_0 : e2_idh 2 8 h_a238_0 = true := by decide +kernel
theorem cs_a238 (hen : en_ok) (l : Launch) : e2_smOk l 1 s_a238 := by
  refine e2_conG (H := 0) (n := 0) (C := evd_97) (S := S_a238) (I := I_a238) (fuel := 4000) hen ei_97 e2_fz e2_fz (by decide) co_a238 fun M d _ hC hcall p e R s m args below meth c Q D cA A ads r0 ha hl0 => ?_
  have L_0 : e2_gdM M p l e R s m args below meth c Q D cA A ads r0 4 al_a238_0 [] E_a238_0 h_a238_0 := by
    refine e2_indL (u := 2) (j := 3) (lo := 2147483648) (hi := 2147483668) (b := 2) (dd := 0) hl0 (by decide) rfl rfl (Or.inr ⟨rfl, rfl⟩) rfl ci_a238_0 cj_a238_0 ?_
    intro r_0 k_0 hk_0 hp_0 hs_0 hn_0
    have hl_0 : r_0.length ≤ 3 := hs_0.len rfl
    have ha_0 := ha.ext hp_0
    exact e2_fromM hen ha_0 hcall (e2_cutA_ok (e2_fa (fun al st E h hc => hn_0 al st E h hc) e2_fz)) (hC []) (X := e2x_97) ex2_97 4 ck_a238_0
  have EN_0 := e2_entL (u := 2) (j := 3) (lo := 2147483648) (hi := 2147483668) hl0 rfl rfl rfl ci_a238_0 cj_a238_0 L_0
  exact e2_from hen ha hcall (e2_cutA_ok (e2_fa (fun al st E h hc => EN_0 al st E h hc) e2_fz)) (hC []) (X := e2x_97) ex2_97 0 ck_a238_e
/-! a239 X5_signAt -/
def as_a239 : List ev_V := [(2, 47, 0), (11, 2147483648, 2147483667)]
def E_a239 : e2_E := [(2147483648, 2147583648, 0, 0), (2147483652, 2147483668, 1, 0)]
noncomputable def f_a239 : ev_H := (an1114 : e2_Q8)
noncomputable def q_a239_0 : ev_H := (an1114 : e2_Q8)
noncomputable def rs_a239 : e2_Rs := [((11, 2147483647, 2147483655), q_a239_0)]
noncomputable def s_a239 : e2_Sm := (98, as_a239, E_a239, f_a239, rs_a239)
noncomputable def S_a239 : List e2_Sm := []
noncomputable def I_a239 : List e2_In := []
set_option maxRecDepth 1000000 in
theorem co_a239 : e2_okSB E_a239.length as_a239 f_a239 rs_a239 = true := by decide +kernel
def al_a239_0 : List ev_V := [(2, 47, 0), (11, 2147483648, 2147483667), (1, 2, 4294967296)]
def E_a239_0 : e2_E := [(2147483648, 2147583648, 0, 0), (2147483652, 2147483668, 1, 0), (2147483648, 2147483668, 2, 0)]
noncomputable def h_a239_0 : ev_H := (an1114 : e2_Q8)
noncomputable def cl_a239_e : List (Nat × e2_S) := [(2, e2_cutL (al_a239_0.set 2 (11, 2147483648, 2147483668)) 2 (E_a239_0.take 2) h_a239_0)]
set_option maxRecDepth 1000000 in
theorem ck_a239_e : e2_run (e2_cal S_a239 I_a239 4000 0) (e2_fin rs_a239) e2x_98 (e2_bpL cl_a239_e) (e2_cutA cl_a239_e) 4000 (e2_seek e2x_98 0) (e2_al 3 as_a239) [] E_a239 f_a239 = true := by decide +kernel
noncomputable def cl_a239_0 : List (Nat × e2_S) := [(2, e2_cutL (al_a239_0.set 2 (13, 10, 2147483668)) 2 (E_a239_0.take 2) h_a239_0)]
set_option maxRecDepth 1000000 in
theorem ck_a239_0 : e2_runM (e2_cal S_a239 I_a239 4000 0) (e2_fin rs_a239) e2x_98 (e2_bpL cl_a239_0) (e2_cutA cl_a239_0) 4000 (e2_seek e2x_98 2) al_a239_0 [] E_a239_0 h_a239_0 = true := by decide +kernel
set_option maxRecDepth 1000000 in
theorem ci_a239_0 : e2_idl 2 (al_a239_0.set 2 (9, 0, 0)) = true := by decide +kernel
set_option maxRecDepth 1000000 in
theorem cj_a239_0 : e2_idh 2 8 h_a239_0 = true := by decide +kernel
theorem cs_a239 (hen : en_ok) (l : Launch) : e2_smOk l 1 s_a239 := by
  refine e2_conG (H := 0) (n := 0) (C := evd_98) (S := S_a239) (I := I_a239) (fuel := 4000) hen ei_98 e2_fz e2_fz (by decide) co_a239 fun M d _ hC hcall p e R s m args below meth c Q D cA A ads r0 ha hl0 => ?_
  have L_0 : e2_gdM M p l e R s m args below meth c Q D cA A ads r0 2 al_a239_0 [] E_a239_0 h_a239_0 := by
    refine e2_indL (u := 2) (j := 2) (lo := 2147483648) (hi := 2147483668) (b := 2) (dd := 0) hl0 (by decide) rfl rfl (Or.inr ⟨rfl, rfl⟩) rfl ci_a239_0 cj_a239_0 ?_
    intro r_0 k_0 hk_0 hp_0 hs_0 hn_0
    have hl_0 : r_0.length ≤ 3 := hs_0.len rfl
    have ha_0 := ha.ext hp_0
    exact e2_fromM hen ha_0 hcall (e2_cutA_ok (e2_fa (fun al st E h hc => hn_0 al st E h hc) e2_fz)) (hC []) (X := e2x_98) ex2_98 2 ck_a239_0
  have EN_0 := e2_entL (u := 2) (j := 2) (lo := 2147483648) (hi := 2147483668) hl0 rfl rfl rfl ci_a239_0 cj_a239_0 L_0
  exact e2_from hen ha hcall (e2_cutA_ok (e2_fa (fun al st E h hc => EN_0 al st E h hc) e2_fz)) (hC []) (X := e2x_98) ex2_98 0 ck_a239_e
/-! a240 X6_turnYear -/
def as_a240 : List ev_V := [(2, 36, 0), (2, 1, 0)]
def E_a240 : e2_E := [(2147483648, 2147583648, 0, 0), (2147483652, 2147483668, 1, 0)]
def an1115 : e2_Q6 := (an506, an451)
def an1116 : e2_Q2 := (an878, an98)
def an1117 : e2_Q3 := (an96, an1116)
def an1118 : e2_Q4 := (an1117, an107)
def an1119 : e2_Q5 := (an1118, an511)
def an1120 : e2_Q6 := (an454, an1119)
def an1121 : e2_Q7 := (an1115, an1120)
def an1122 : e2_Q7 := (an936, an522)
def an1123 : e2_Q8 := (an1121, an1122)
noncomputable def f_a240 : ev_H := (an1123 : e2_Q8)
noncomputable def q_a240_0 : ev_H := (an1123 : e2_Q8)
noncomputable def rs_a240 : e2_Rs := [((9, 0, 0), q_a240_0)]
noncomputable def s_a240 : e2_Sm := (103, as_a240, E_a240, f_a240, rs_a240)
noncomputable def S_a240 : List e2_Sm := [s_a11]
noncomputable def I_a240 : List e2_In := [(101, 2, e2x_101), (159, 2, e2x_159)]
set_option maxRecDepth 1000000 in
theorem co_a240 : e2_okSB E_a240.length as_a240 f_a240 rs_a240 = true := by decide +kernel
def al_a240_0 : List ev_V := [(2, 36, 0), (2, 1, 0), (1, 2, 4294967296)]
def E_a240_0 : e2_E := [(2147483648, 2147583648, 0, 0), (2147483652, 2147483668, 1, 0), (2147483648, 2147483668, 2, 0)]
noncomputable def h_a240_0 : ev_H := (an1123 : e2_Q8)
noncomputable def cl_a240_e : List (Nat × e2_S) := [(86, e2_cutL (al_a240_0.set 2 (11, 2147483648, 2147483668)) 2 (E_a240_0.take 2) h_a240_0)]
set_option maxRecDepth 1000000 in
theorem ck_a240_e : e2_run (e2_cal S_a240 I_a240 4000 1) (e2_fin rs_a240) e2x_103 (e2_bpL cl_a240_e) (e2_cutA cl_a240_e) 4000 (e2_seek e2x_103 0) (e2_al 3 as_a240) [] E_a240 f_a240 = true := by decide +kernel
noncomputable def cl_a240_0 : List (Nat × e2_S) := [(86, e2_cutL (al_a240_0.set 2 (13, 10, 2147483668)) 2 (E_a240_0.take 2) h_a240_0)]
set_option maxRecDepth 1000000 in
theorem ck_a240_0 : e2_runM (e2_cal S_a240 I_a240 4000 1) (e2_fin rs_a240) e2x_103 (e2_bpL cl_a240_0) (e2_cutA cl_a240_0) 4000 (e2_seek e2x_103 86) al_a240_0 [] E_a240_0 h_a240_0 = true := by decide +kernel
set_option maxRecDepth 1000000 in
theorem ci_a240_0 : e2_idl 2 (al_a240_0.set 2 (9, 0, 0)) = true := by decide +kernel
set_option maxRecDepth 1000000 in
theorem cj_a240_0 : e2_idh 2 8 h_a240_0 = true := by decide +kernel
theorem cs_a240 (hen : en_ok) (l : Launch) : e2_smOk l 4 s_a240 := by
  refine e2_conG (H := 2) (n := 1) (C := evd_103) (S := S_a240) (I := I_a240) (fuel := 4000) hen ei_103 (e2_fa (cs_a11 hen l) e2_fz) (e2_fa ein_101 (e2_fa ein_159 e2_fz)) (by decide) co_a240 fun M d _ hC hcall p e R s m args below meth c Q D cA A ads r0 ha hl0 => ?_
  have L_0 : e2_gdM M p l e R s m args below meth c Q D cA A ads r0 86 al_a240_0 [] E_a240_0 h_a240_0 := by
    refine e2_indL (u := 2) (j := 2) (lo := 2147483648) (hi := 2147483668) (b := 2) (dd := 0) hl0 (by decide) rfl rfl (Or.inr ⟨rfl, rfl⟩) rfl ci_a240_0 cj_a240_0 ?_
    intro r_0 k_0 hk_0 hp_0 hs_0 hn_0
    have hl_0 : r_0.length ≤ 3 := hs_0.len rfl
    have ha_0 := ha.ext hp_0
    exact e2_fromM hen ha_0 hcall (e2_cutA_ok (e2_fa (fun al st E h hc => hn_0 al st E h hc) e2_fz)) (hC []) (X := e2x_103) ex2_103 86 ck_a240_0
  have EN_0 := e2_entL (u := 2) (j := 2) (lo := 2147483648) (hi := 2147483668) hl0 rfl rfl rfl ci_a240_0 cj_a240_0 L_0
  exact e2_from hen ha hcall (e2_cutA_ok (e2_fa (fun al st E h hc => EN_0 al st E h hc) e2_fz)) (hC []) (X := e2x_103) ex2_103 0 ck_a240_e
/-! a241 X6_turnYear -/
def as_a241 : List ev_V := [(2, 40, 0), (2, 1, 0)]
def E_a241 : e2_E := [(2147483648, 2147583648, 0, 0), (2147483652, 2147483668, 1, 0)]
def an1124 : e2_Q5 := (an505, an1081)
def an1125 : e2_Q6 := (an1124, an61)
def an1126 : e2_Q2 := (an878, an82)
def an1127 : e2_Q3 := (an80, an1126)
def an1128 : e2_Q4 := (an1127, an91)
def an1129 : e2_Q5 := (an453, an1128)
def an1130 : e2_Q6 := (an1129, an512)
def an1131 : e2_Q7 := (an1125, an1130)
def an1132 : e2_Q7 := (an936, an530)
def an1133 : e2_Q8 := (an1131, an1132)
noncomputable def f_a241 : ev_H := (an1133 : e2_Q8)
noncomputable def q_a241_0 : ev_H := (an1133 : e2_Q8)
noncomputable def rs_a241 : e2_Rs := [((9, 0, 0), q_a241_0)]
noncomputable def s_a241 : e2_Sm := (103, as_a241, E_a241, f_a241, rs_a241)
noncomputable def S_a241 : List e2_Sm := [s_a12]
noncomputable def I_a241 : List e2_In := [(101, 2, e2x_101), (159, 2, e2x_159)]
set_option maxRecDepth 1000000 in
theorem co_a241 : e2_okSB E_a241.length as_a241 f_a241 rs_a241 = true := by decide +kernel
def al_a241_0 : List ev_V := [(2, 40, 0), (2, 1, 0), (1, 2, 4294967296)]
def E_a241_0 : e2_E := [(2147483648, 2147583648, 0, 0), (2147483652, 2147483668, 1, 0), (2147483648, 2147483668, 2, 0)]
noncomputable def h_a241_0 : ev_H := (an1133 : e2_Q8)
noncomputable def cl_a241_e : List (Nat × e2_S) := [(86, e2_cutL (al_a241_0.set 2 (11, 2147483648, 2147483668)) 2 (E_a241_0.take 2) h_a241_0)]
set_option maxRecDepth 1000000 in
theorem ck_a241_e : e2_run (e2_cal S_a241 I_a241 4000 1) (e2_fin rs_a241) e2x_103 (e2_bpL cl_a241_e) (e2_cutA cl_a241_e) 4000 (e2_seek e2x_103 0) (e2_al 3 as_a241) [] E_a241 f_a241 = true := by decide +kernel
noncomputable def cl_a241_0 : List (Nat × e2_S) := [(86, e2_cutL (al_a241_0.set 2 (13, 10, 2147483668)) 2 (E_a241_0.take 2) h_a241_0)]
set_option maxRecDepth 1000000 in
theorem ck_a241_0 : e2_runM (e2_cal S_a241 I_a241 4000 1) (e2_fin rs_a241) e2x_103 (e2_bpL cl_a241_0) (e2_cutA cl_a241_0) 4000 (e2_seek e2x_103 86) al_a241_0 [] E_a241_0 h_a241_0 = true := by decide +kernel
set_option maxRecDepth 1000000 in
theorem ci_a241_0 : e2_idl 2 (al_a241_0.set 2 (9, 0, 0)) = true := by decide +kernel
set_option maxRecDepth 1000000 in
theorem cj_a241_0 : e2_idh 2 8 h_a241_0 = true := by decide +kernel
theorem cs_a241 (hen : en_ok) (l : Launch) : e2_smOk l 4 s_a241 := by
  refine e2_conG (H := 2) (n := 1) (C := evd_103) (S := S_a241) (I := I_a241) (fuel := 4000) hen ei_103 (e2_fa (cs_a12 hen l) e2_fz) (e2_fa ein_101 (e2_fa ein_159 e2_fz)) (by decide) co_a241 fun M d _ hC hcall p e R s m args below meth c Q D cA A ads r0 ha hl0 => ?_
  have L_0 : e2_gdM M p l e R s m args below meth c Q D cA A ads r0 86 al_a241_0 [] E_a241_0 h_a241_0 := by
    refine e2_indL (u := 2) (j := 2) (lo := 2147483648) (hi := 2147483668) (b := 2) (dd := 0) hl0 (by decide) rfl rfl (Or.inr ⟨rfl, rfl⟩) rfl ci_a241_0 cj_a241_0 ?_
    intro r_0 k_0 hk_0 hp_0 hs_0 hn_0
    have hl_0 : r_0.length ≤ 3 := hs_0.len rfl
    have ha_0 := ha.ext hp_0
    exact e2_fromM hen ha_0 hcall (e2_cutA_ok (e2_fa (fun al st E h hc => hn_0 al st E h hc) e2_fz)) (hC []) (X := e2x_103) ex2_103 86 ck_a241_0
  have EN_0 := e2_entL (u := 2) (j := 2) (lo := 2147483648) (hi := 2147483668) hl0 rfl rfl rfl ci_a241_0 cj_a241_0 L_0
  exact e2_from hen ha hcall (e2_cutA_ok (e2_fa (fun al st E h hc => EN_0 al st E h hc) e2_fz)) (hC []) (X := e2x_103) ex2_103 0 ck_a241_e
/-! a242 X7_putFour -/
def as_a242 : List ev_V := [(2, 34, 0), (11, 0, 4294967295)]
def E_a242 : e2_E := [(2147483648, 2147583648, 0, 0), (2147483652, 2147483668, 1, 0)]
noncomputable def f_a242 : ev_H := (an584 : e2_Q8)
noncomputable def q_a242_0 : ev_H := (an584 : e2_Q8)
noncomputable def rs_a242 : e2_Rs := [((9, 0, 0), q_a242_0)]
noncomputable def s_a242 : e2_Sm := (105, as_a242, E_a242, f_a242, rs_a242)
noncomputable def S_a242 : List e2_Sm := []
noncomputable def I_a242 : List e2_In := []
set_option maxRecDepth 1000000 in
theorem co_a242 : e2_okSB E_a242.length as_a242 f_a242 rs_a242 = true := by decide +kernel
def al_a242_0 : List ev_V := [(2, 34, 0), (11, 0, 4294967295), (1, 2, 4294967296)]
def E_a242_0 : e2_E := [(2147483648, 2147583648, 0, 0), (2147483652, 2147483668, 1, 0), (2147483640, 2147483672, 2, 0)]
noncomputable def h_a242_0 : ev_H := (an584 : e2_Q8)
noncomputable def cl_a242_e : List (Nat × e2_S) := [(3, e2_cutL (al_a242_0.set 2 (11, 2147483640, 2147483672)) 2 (E_a242_0.take 2) h_a242_0)]
set_option maxRecDepth 1000000 in
theorem ck_a242_e : e2_run (e2_cal S_a242 I_a242 4000 0) (e2_fin rs_a242) e2x_105 (e2_bpL cl_a242_e) (e2_cutA cl_a242_e) 4000 (e2_seek e2x_105 0) (e2_al 3 as_a242) [] E_a242 f_a242 = true := by decide +kernel
noncomputable def cl_a242_0 : List (Nat × e2_S) := [(3, e2_cutL (al_a242_0.set 2 (12, 10, 2147483640)) 2 (E_a242_0.take 2) h_a242_0)]
set_option maxRecDepth 1000000 in
theorem ck_a242_0 : e2_runM (e2_cal S_a242 I_a242 4000 0) (e2_fin rs_a242) e2x_105 (e2_bpL cl_a242_0) (e2_cutA cl_a242_0) 4000 (e2_seek e2x_105 3) al_a242_0 [] E_a242_0 h_a242_0 = true := by decide +kernel
set_option maxRecDepth 1000000 in
theorem ci_a242_0 : e2_idl 2 (al_a242_0.set 2 (9, 0, 0)) = true := by decide +kernel
set_option maxRecDepth 1000000 in
theorem cj_a242_0 : e2_idh 2 8 h_a242_0 = true := by decide +kernel
theorem cs_a242 (hen : en_ok) (l : Launch) : e2_smOk l 1 s_a242 := by
  refine e2_conG (H := 0) (n := 0) (C := evd_105) (S := S_a242) (I := I_a242) (fuel := 4000) hen ei_105 e2_fz e2_fz (by decide) co_a242 fun M d _ hC hcall p e R s m args below meth c Q D cA A ads r0 ha hl0 => ?_
  have L_0 : e2_gdM M p l e R s m args below meth c Q D cA A ads r0 3 al_a242_0 [] E_a242_0 h_a242_0 := by
    refine e2_indD (u := 2) (j := 2) (lo := 2147483640) (hi := 2147483672) hl0 (by decide) rfl rfl rfl ci_a242_0 cj_a242_0 ?_
    intro r_0 k_0 hk_0 hp_0 hs_0 hn_0
    have hl_0 : r_0.length ≤ 3 := hs_0.len rfl
    have ha_0 := ha.ext hp_0
    exact e2_fromM hen ha_0 hcall (e2_cutA_ok (e2_fa (fun al st E h hc => hn_0 al st E h hc) e2_fz)) (hC []) (X := e2x_105) ex2_105 3 ck_a242_0
  have EN_0 := e2_entL (u := 2) (j := 2) (lo := 2147483640) (hi := 2147483672) hl0 rfl rfl rfl ci_a242_0 cj_a242_0 L_0
  exact e2_from hen ha hcall (e2_cutA_ok (e2_fa (fun al st E h hc => EN_0 al st E h hc) e2_fz)) (hC []) (X := e2x_105) ex2_105 0 ck_a242_e
/-! a243 X9_feed -/
def as_a243 : List ev_V := [(2, 0, 0), (11, 0, 4294967295), (11, 0, 4294967295), (11, 0, 4294967295), (11, 0, 4294967295), (11, 0, 4294967295)]
def E_a243 : e2_E := [(2147483648, 2147583648, 0, 0), (2147483652, 2147483668, 1, 0)]
def ac198 : ev_C := (9, [(2, 1, 0), (2, 36, 0), (2, 47, 0), (2, 59, 0), (2, 44, 0), (2, 77, 0), (2, 40, 0), (2, 33, 0), (2, 17, 0)])
def an1134 : e2_Q1 := (ac198, ac1)
def an1135 : e2_Q2 := (an1134, an1)
def an1136 : e2_Q3 := (an1135, an5)
def an1137 : e2_Q4 := (an1136, an13)
def an1138 : e2_Q5 := (an1137, an29)
def an1139 : e2_Q6 := (an1138, an61)
def an1140 : e2_Q7 := (an1139, an268)
def an1141 : e2_Q4 := (an757, an140)
def an1142 : e2_Q5 := (an1141, an156)
def an1143 : e2_Q6 := (an1142, an188)
def an1144 : e2_Q7 := (an1143, an252)
def an1145 : e2_Q8 := (an1140, an1144)
noncomputable def f_a243 : ev_H := (an1145 : e2_Q8)
noncomputable def q_a243_0 : ev_H := (an1145 : e2_Q8)
noncomputable def rs_a243 : e2_Rs := [((11, 2147483647, 2147485248), q_a243_0)]
noncomputable def s_a243 : e2_Sm := (123, as_a243, E_a243, f_a243, rs_a243)
noncomputable def S_a243 : List e2_Sm := [s_a242]
noncomputable def I_a243 : List e2_In := [(104, 2, e2x_104)]
set_option maxRecDepth 1000000 in
theorem ck_a243 : e2_run (e2_cal S_a243 I_a243 4000 1) (e2_fin rs_a243) e2x_123 (fun _ => false) (fun _ _ _ _ _ => false) 4000 (e2_seek e2x_123 0) (e2_al 7 as_a243) [] E_a243 f_a243 = true := by decide +kernel
set_option maxRecDepth 1000000 in
theorem co_a243 : e2_okSB E_a243.length as_a243 f_a243 rs_a243 = true := by decide +kernel
theorem cs_a243 (hen : en_ok) (l : Launch) : e2_smOk l 3 s_a243 := e2_con0 (H := 1) (n := 1) (C := evd_123) (S := S_a243) (I := I_a243) (fuel := 4000) [] hen ei_123 (e2_fa (cs_a242 hen l) e2_fz) (e2_fa ein_104 e2_fz) (by decide) co_a243 ex2_123 ck_a243
/-! a244 X9_meadow -/
def as_a244 : List ev_V := [(2, 0, 0)]
def E_a244 : e2_E := [(2147483648, 2147583648, 0, 0), (2147483652, 2147483668, 1, 0)]
def an1146 : e2_Q5 := (an1137, an677)
def an1147 : e2_Q4 := (an787, an654)
def ac199 : ev_C := (2, [(11, 0, 4294967295), (2, 45, 0), (11, 0, 4294967295), (11, 0, 4294967295), (2, 46, 0), (11, 0, 4294967295)])
def an1148 : e2_Q1 := (ac199, ac3)
def an1149 : e2_Q2 := (an1148, an50)
def an1150 : e2_Q3 := (an48, an1149)
def an1151 : e2_Q4 := (an1150, an623)
def an1152 : e2_Q5 := (an1147, an1151)
def an1153 : e2_Q6 := (an1146, an1152)
def an1154 : e2_Q3 := (an311, an1116)
def an1155 : e2_Q4 := (an1154, an400)
def an1156 : e2_Q5 := (an1155, an641)
def an1157 : e2_Q6 := (an751, an1156)
def an1158 : e2_Q7 := (an1153, an1157)
def an1159 : e2_Q4 := (an799, an694)
def ac200 : ev_C := (54, [(0, 1107, 0), (11, 0, 4294967295)])
def an1160 : e2_Q1 := (ac200, ac3)
def an1161 : e2_Q2 := (an1160, an177)
def an1162 : e2_Q3 := (an558, an1161)
def an1163 : e2_Q4 := (an1162, an186)
def an1164 : e2_Q5 := (an1159, an1163)
def an1165 : e2_Q6 := (an759, an1164)
def an1166 : e2_Q3 := (an629, an821)
def an1167 : e2_Q4 := (an211, an1166)
def an1168 : e2_Q5 := (an762, an1167)
def an1169 : e2_Q6 := (an1168, an764)
def an1170 : e2_Q7 := (an1165, an1169)
def an1171 : e2_Q8 := (an1158, an1170)
noncomputable def f_a244 : ev_H := (an1171 : e2_Q8)
def an1172 : e2_Q6 := (an772, an1164)
def an1173 : e2_Q7 := (an1172, an1169)
def an1174 : e2_Q8 := (an1158, an1173)
noncomputable def q_a244_0 : ev_H := (an1174 : e2_Q8)
def ac201 : ev_C := (9, [(2, 17, 0), (2, 36, 0), (2, 47, 0), (2, 59, 0), (2, 44, 0), (2, 77, 0), (2, 40, 0), (2, 33, 0), (2, 1, 0)])
def an1175 : e2_Q1 := (ac201, ac1)
def an1176 : e2_Q2 := (an1175, an1)
def an1177 : e2_Q3 := (an1176, an5)
def an1178 : e2_Q4 := (an1177, an13)
def an1179 : e2_Q5 := (an1178, an677)
def an1180 : e2_Q6 := (an1179, an1152)
def an1181 : e2_Q7 := (an1180, an1157)
def an1182 : e2_Q8 := (an1181, an1173)
noncomputable def q_a244_1 : ev_H := (an1182 : e2_Q8)
noncomputable def rs_a244 : e2_Rs := [((0, 4294967295, 0), q_a244_0), ((11, 2147483648, 2147483656), q_a244_1)]
noncomputable def s_a244 : e2_Sm := (125, as_a244, E_a244, f_a244, rs_a244)
noncomputable def S_a244 : List e2_Sm := [s_a8, s_a186]
noncomputable def I_a244 : List e2_In := [(3, 2, e2x_3), (9, 4, e2x_9), (23, 2, e2x_23), (39, 1, e2x_39), (63, 1, e2x_63), (106, 2, e2x_106)]
set_option maxRecDepth 1000000 in
theorem ck_a244 : e2_run (e2_cal S_a244 I_a244 4000 2) (e2_fin rs_a244) e2x_125 (fun _ => false) (fun _ _ _ _ _ => false) 4000 (e2_seek e2x_125 0) (e2_al 2 as_a244) [] E_a244 f_a244 = true := by decide +kernel
set_option maxRecDepth 1000000 in
theorem co_a244 : e2_okSB E_a244.length as_a244 f_a244 rs_a244 = true := by decide +kernel
theorem cs_a244 (hen : en_ok) (l : Launch) (hh : e2_hand_a l) : e2_smOk l 223 s_a244 := e2_con0 (H := 220) (n := 2) (C := evd_125) (S := S_a244) (I := I_a244) (fuel := 4000) [] hen ei_125 (e2_fa ((cs_a8 hen l).mono (by decide)) (e2_fa (cs_a186 hen l hh) e2_fz)) (e2_fa ein_3 (e2_fa ein_9 (e2_fa ein_23 (e2_fa ein_39 (e2_fa ein_63 (e2_fa ein_106 e2_fz)))))) (by decide) co_a244 ex2_125 ck_a244
/-! a245 X9_readAll -/
def as_a245 : List ev_V := [(2, 0, 0), (2, 36, 0)]
def E_a245 : e2_E := [(2147483648, 2147583648, 0, 0), (2147483652, 2147483668, 1, 0)]
def an1183 : e2_Q4 := (an1136, an280)
def an1184 : e2_Q5 := (an1183, an285)
def an1185 : e2_Q6 := (an1184, an1054)
def an1186 : e2_Q5 := (an1056, an308)
def an1187 : e2_Q6 := (an1186, an318)
def an1188 : e2_Q7 := (an1185, an1187)
def an1189 : e2_Q5 := (an1044, an330)
def an1190 : e2_Q6 := (an1189, an1062)
def an1191 : e2_Q4 := (an806, an348)
def an1192 : e2_Q5 := (an1191, an1067)
def an1193 : e2_Q6 := (an1048, an1192)
def an1194 : e2_Q7 := (an1190, an1193)
def an1195 : e2_Q8 := (an1188, an1194)
noncomputable def f_a245 : ev_H := (an1195 : e2_Q8)
def an1196 : e2_Q7 := (an1185, an319)
def an1197 : e2_Q4 := (an1060, an360)
def an1198 : e2_Q5 := (an1197, an492)
def an1199 : e2_Q6 := (an1189, an1198)
def an1200 : e2_Q5 := (an367, an498)
def an1201 : e2_Q5 := (an1191, an372)
def an1202 : e2_Q6 := (an1200, an1201)
def an1203 : e2_Q7 := (an1199, an1202)
def an1204 : e2_Q8 := (an1196, an1203)
noncomputable def q_a245_0 : ev_H := (an1204 : e2_Q8)
noncomputable def rs_a245 : e2_Rs := [((11, 0, 4294967295), q_a245_0)]
noncomputable def s_a245 : e2_Sm := (166, as_a245, E_a245, f_a245, rs_a245)
noncomputable def S_a245 : List e2_Sm := [s_a3, s_a234]
noncomputable def I_a245 : List e2_In := []
set_option maxRecDepth 1000000 in
theorem ck_a245 : e2_run (e2_cal S_a245 I_a245 4000 0) (e2_fin rs_a245) e2x_166 (fun _ => false) (fun _ _ _ _ _ => false) 4000 (e2_seek e2x_166 0) (e2_al 3 as_a245) [] E_a245 f_a245 = true := by decide +kernel
set_option maxRecDepth 1000000 in
theorem co_a245 : e2_okSB E_a245.length as_a245 f_a245 rs_a245 = true := by decide +kernel
theorem cs_a245 (hen : en_ok) (l : Launch) (hh : e2_hand_a l) : e2_smOk l 61 s_a245 := e2_con0 (H := 60) (n := 0) (C := evd_166) (S := S_a245) (I := I_a245) (fuel := 4000) [] hen ei_166 (e2_fa (hh _ hm_a3) (e2_fa ((cs_a234 hen l).mono (by decide)) e2_fz)) e2_fz (by decide) co_a245 ex2_166 ck_a245
/-! a246 X9_takeNow -/
def as_a246 : List ev_V := [(2, 0, 0)]
def E_a246 : e2_E := [(2147483648, 2147583648, 0, 0), (2147483652, 2147483668, 1, 0)]
noncomputable def f_a246 : ev_H := (an1195 : e2_Q8)
noncomputable def q_a246_0 : ev_H := (an1204 : e2_Q8)
noncomputable def rs_a246 : e2_Rs := [((11, 2147483648, 2147483649), q_a246_0)]
noncomputable def s_a246 : e2_Sm := (167, as_a246, E_a246, f_a246, rs_a246)
noncomputable def S_a246 : List e2_Sm := [s_a4, s_a245]
noncomputable def I_a246 : List e2_In := []
set_option maxRecDepth 1000000 in
theorem ck_a246 : e2_run (e2_cal S_a246 I_a246 4000 0) (e2_fin rs_a246) e2x_167 (fun _ => false) (fun _ _ _ _ _ => false) 4000 (e2_seek e2x_167 0) (e2_al 1 as_a246) [] E_a246 f_a246 = true := by decide +kernel
set_option maxRecDepth 1000000 in
theorem co_a246 : e2_okSB E_a246.length as_a246 f_a246 rs_a246 = true := by decide +kernel
theorem cs_a246 (hen : en_ok) (l : Launch) (hh : e2_hand_a l) : e2_smOk l 62 s_a246 := e2_con0 (H := 61) (n := 0) (C := evd_167) (S := S_a246) (I := I_a246) (fuel := 4000) [] hen ei_167 (e2_fa ((hh _ hm_a4).mono (by decide)) (e2_fa (cs_a245 hen l hh) e2_fz)) e2_fz (by decide) co_a246 ex2_167 ck_a246
/-! a247 X9_glyph -/
def as_a247 : List ev_V := [(2, 0, 0), (11, 0, 4294967295), (11, 0, 4294967295)]
def E_a247 : e2_E := [(2147483648, 2147583648, 0, 0), (2147483652, 2147483668, 1, 0)]
def an1205 : e2_Q4 := (an837, an284)
def an1206 : e2_Q5 := (an1183, an1205)
def an1207 : e2_Q6 := (an1206, an1054)
def an1208 : e2_Q7 := (an1207, an1187)
def an1209 : e2_Q8 := (an1208, an1194)
noncomputable def f_a247 : ev_H := (an1209 : e2_Q8)
noncomputable def q_a247_0 : ev_H := (an1209 : e2_Q8)
noncomputable def rs_a247 : e2_Rs := [((11, 0, 4294967295), q_a247_0)]
noncomputable def s_a247 : e2_Sm := (128, as_a247, E_a247, f_a247, rs_a247)
noncomputable def S_a247 : List e2_Sm := [s_a238, s_a246]
noncomputable def I_a247 : List e2_In := [(162, 2, e2x_162)]
set_option maxRecDepth 1000000 in
theorem ck_a247 : e2_run (e2_cal S_a247 I_a247 4000 1) (e2_fin rs_a247) e2x_128 (fun _ => false) (fun _ _ _ _ _ => false) 4000 (e2_seek e2x_128 0) (e2_al 3 as_a247) [] E_a247 f_a247 = true := by decide +kernel
set_option maxRecDepth 1000000 in
theorem co_a247 : e2_okSB E_a247.length as_a247 f_a247 rs_a247 = true := by decide +kernel
theorem cs_a247 (hen : en_ok) (l : Launch) (hh : e2_hand_a l) : e2_smOk l 64 s_a247 := e2_con0 (H := 62) (n := 1) (C := evd_128) (S := S_a247) (I := I_a247) (fuel := 4000) [] hen ei_128 (e2_fa ((cs_a238 hen l).mono (by decide)) (e2_fa (cs_a246 hen l hh) e2_fz)) (e2_fa ein_162 e2_fz) (by decide) co_a247 ex2_128 ck_a247
/-! a248 X9_plot -/
def as_a248 : List ev_V := [(2, 0, 0), (11, 0, 4294967295), (11, 0, 4294967295)]
def E_a248 : e2_E := [(2147483648, 2147583648, 0, 0), (2147483652, 2147483668, 1, 0)]
def an1210 : e2_Q4 := (an1154, an316)
def an1211 : e2_Q5 := (an1210, an123)
def an1212 : e2_Q6 := (an1186, an1211)
def an1213 : e2_Q7 := (an1185, an1212)
def an1214 : e2_Q8 := (an1213, an1194)
noncomputable def f_a248 : ev_H := (an1214 : e2_Q8)
noncomputable def q_a248_0 : ev_H := (an1214 : e2_Q8)
noncomputable def rs_a248 : e2_Rs := [((11, 0, 4294967295), q_a248_0)]
noncomputable def s_a248 : e2_Sm := (129, as_a248, E_a248, f_a248, rs_a248)
noncomputable def S_a248 : List e2_Sm := [s_a239, s_a246]
noncomputable def I_a248 : List e2_In := [(159, 2, e2x_159), (163, 2, e2x_163)]
set_option maxRecDepth 1000000 in
theorem ck_a248 : e2_run (e2_cal S_a248 I_a248 4000 1) (e2_fin rs_a248) e2x_129 (fun _ => false) (fun _ _ _ _ _ => false) 4000 (e2_seek e2x_129 0) (e2_al 4 as_a248) [] E_a248 f_a248 = true := by decide +kernel
set_option maxRecDepth 1000000 in
theorem co_a248 : e2_okSB E_a248.length as_a248 f_a248 rs_a248 = true := by decide +kernel
theorem cs_a248 (hen : en_ok) (l : Launch) (hh : e2_hand_a l) : e2_smOk l 64 s_a248 := e2_con0 (H := 62) (n := 1) (C := evd_129) (S := S_a248) (I := I_a248) (fuel := 4000) [] hen ei_129 (e2_fa ((cs_a239 hen l).mono (by decide)) (e2_fa (cs_a246 hen l hh) e2_fz)) (e2_fa ein_159 (e2_fa ein_163 e2_fz)) (by decide) co_a248 ex2_129 ck_a248
/-! a249 X9_passYear -/
def as_a249 : List ev_V := [(2, 0, 0), (2, 36, 0)]
def E_a249 : e2_E := [(2147483648, 2147583648, 0, 0), (2147483652, 2147483668, 1, 0)]
def an1215 : e2_Q3 := (an503, an279)
def an1216 : e2_Q4 := (an1136, an1215)
def an1217 : e2_Q5 := (an1216, an1205)
def an1218 : e2_Q6 := (an1217, an1054)
def an1219 : e2_Q5 := (an1210, an511)
def an1220 : e2_Q6 := (an1186, an1219)
def an1221 : e2_Q7 := (an1218, an1220)
def an1222 : e2_Q3 := (an805, an515)
def an1223 : e2_Q4 := (an1222, an348)
def an1224 : e2_Q3 := (an518, an1065)
def an1225 : e2_Q4 := (an1224, an249)
def an1226 : e2_Q5 := (an1223, an1225)
def an1227 : e2_Q6 := (an1048, an1226)
def an1228 : e2_Q7 := (an1190, an1227)
def an1229 : e2_Q8 := (an1221, an1228)
noncomputable def f_a249 : ev_H := (an1229 : e2_Q8)
def an1230 : e2_Q6 := (an309, an1219)
def an1231 : e2_Q7 := (an1218, an1230)
def an1232 : e2_Q3 := (an518, an370)
def an1233 : e2_Q4 := (an1232, an249)
def an1234 : e2_Q5 := (an1223, an1233)
def an1235 : e2_Q6 := (an1200, an1234)
def an1236 : e2_Q7 := (an1199, an1235)
def an1237 : e2_Q8 := (an1231, an1236)
noncomputable def q_a249_0 : ev_H := (an1237 : e2_Q8)
noncomputable def rs_a249 : e2_Rs := [((11, 2147483647, 2147483668), q_a249_0)]
noncomputable def s_a249 : e2_Sm := (168, as_a249, E_a249, f_a249, rs_a249)
noncomputable def S_a249 : List e2_Sm := [s_a4, s_a240, s_a245]
noncomputable def I_a249 : List e2_In := [(102, 3, e2x_102), (160, 2, e2x_160)]
set_option maxRecDepth 1000000 in
theorem co_a249 : e2_okSB E_a249.length as_a249 f_a249 rs_a249 = true := by decide +kernel
def al_a249_0 : List ev_V := [(2, 0, 0), (2, 36, 0), (11, 2147483648, 2147483668), (1, 2, 4294967296), (9, 0, 0)]
def E_a249_0 : e2_E := [(2147483648, 2147583648, 0, 0), (2147483652, 2147483668, 1, 0), (2147483648, 2147483668, 2, 0)]
noncomputable def h_a249_0 : ev_H := (an1237 : e2_Q8)
noncomputable def cl_a249_e : List (Nat × e2_S) := [(30, e2_cutL (al_a249_0.set 3 (11, 2147483648, 2147483668)) 2 (E_a249_0.take 2) h_a249_0)]
set_option maxRecDepth 1000000 in
theorem ck_a249_e : e2_run (e2_cal S_a249 I_a249 4000 2) (e2_fin rs_a249) e2x_168 (e2_bpL cl_a249_e) (e2_cutA cl_a249_e) 4000 (e2_seek e2x_168 0) (e2_al 5 as_a249) [] E_a249 f_a249 = true := by decide +kernel
noncomputable def cl_a249_0 : List (Nat × e2_S) := [(30, e2_cutL (al_a249_0.set 3 (13, 10, 2147483668)) 2 (E_a249_0.take 2) h_a249_0)]
set_option maxRecDepth 1000000 in
theorem ck_a249_0 : e2_runM (e2_cal S_a249 I_a249 4000 2) (e2_fin rs_a249) e2x_168 (e2_bpL cl_a249_0) (e2_cutA cl_a249_0) 4000 (e2_seek e2x_168 30) al_a249_0 [] E_a249_0 h_a249_0 = true := by decide +kernel
set_option maxRecDepth 1000000 in
theorem ci_a249_0 : e2_idl 2 (al_a249_0.set 3 (9, 0, 0)) = true := by decide +kernel
set_option maxRecDepth 1000000 in
theorem cj_a249_0 : e2_idh 2 8 h_a249_0 = true := by decide +kernel
theorem cs_a249 (hen : en_ok) (l : Launch) (hh : e2_hand_a l) : e2_smOk l 64 s_a249 := by
  refine e2_conG (H := 61) (n := 2) (C := evd_168) (S := S_a249) (I := I_a249) (fuel := 4000) hen ei_168 (e2_fa ((hh _ hm_a4).mono (by decide)) (e2_fa ((cs_a240 hen l).mono (by decide)) (e2_fa (cs_a245 hen l hh) e2_fz))) (e2_fa ein_102 (e2_fa ein_160 e2_fz)) (by decide) co_a249 fun M d _ hC hcall p e R s m args below meth c Q D cA A ads r0 ha hl0 => ?_
  have L_0 : e2_gdM M p l e R s m args below meth c Q D cA A ads r0 30 al_a249_0 [] E_a249_0 h_a249_0 := by
    refine e2_indL (u := 2) (j := 3) (lo := 2147483648) (hi := 2147483668) (b := 2) (dd := 0) hl0 (by decide) rfl rfl (Or.inr ⟨rfl, rfl⟩) rfl ci_a249_0 cj_a249_0 ?_
    intro r_0 k_0 hk_0 hp_0 hs_0 hn_0
    have hl_0 : r_0.length ≤ 3 := hs_0.len rfl
    have ha_0 := ha.ext hp_0
    exact e2_fromM hen ha_0 hcall (e2_cutA_ok (e2_fa (fun al st E h hc => hn_0 al st E h hc) e2_fz)) (hC []) (X := e2x_168) ex2_168 30 ck_a249_0
  have EN_0 := e2_entL (u := 2) (j := 3) (lo := 2147483648) (hi := 2147483668) hl0 rfl rfl rfl ci_a249_0 cj_a249_0 L_0
  exact e2_from hen ha hcall (e2_cutA_ok (e2_fa (fun al st E h hc => EN_0 al st E h hc) e2_fz)) (hC []) (X := e2x_168) ex2_168 0 ck_a249_e
/-! a250 X9_year -/
def as_a250 : List ev_V := [(2, 0, 0)]
def E_a250 : e2_E := [(2147483648, 2147583648, 0, 0), (2147483652, 2147483668, 1, 0)]
def an1238 : e2_Q3 := (an478, an1149)
def an1239 : e2_Q4 := (an1238, an59)
def an1240 : e2_Q5 := (an1053, an1239)
def an1241 : e2_Q6 := (an1217, an1240)
def an1242 : e2_Q7 := (an1241, an1220)
def an1243 : e2_Q3 := (an490, an1161)
def an1244 : e2_Q4 := (an1243, an186)
def an1245 : e2_Q5 := (an1061, an1244)
def an1246 : e2_Q6 := (an1189, an1245)
def an1247 : e2_Q7 := (an1246, an1227)
def an1248 : e2_Q8 := (an1242, an1247)
noncomputable def f_a250 : ev_H := (an1248 : e2_Q8)
noncomputable def q_a250_0 : ev_H := (an1248 : e2_Q8)
noncomputable def rs_a250 : e2_Rs := [((11, 2147483646, 2147483668), q_a250_0)]
noncomputable def s_a250 : e2_Sm := (132, as_a250, E_a250, f_a250, rs_a250)
noncomputable def S_a250 : List e2_Sm := [s_a249]
noncomputable def I_a250 : List e2_In := [(9, 4, e2x_9), (35, 2, e2x_35), (36, 1, e2x_36)]
set_option maxRecDepth 1000000 in
theorem ck_a250 : e2_run (e2_cal S_a250 I_a250 4000 2) (e2_fin rs_a250) e2x_132 (fun _ => false) (fun _ _ _ _ _ => false) 4000 (e2_seek e2x_132 0) (e2_al 2 as_a250) [] E_a250 f_a250 = true := by decide +kernel
set_option maxRecDepth 1000000 in
theorem co_a250 : e2_okSB E_a250.length as_a250 f_a250 rs_a250 = true := by decide +kernel
theorem cs_a250 (hen : en_ok) (l : Launch) (hh : e2_hand_a l) : e2_smOk l 67 s_a250 := e2_con0 (H := 64) (n := 2) (C := evd_132) (S := S_a250) (I := I_a250) (fuel := 4000) [] hen ei_132 (e2_fa (cs_a249 hen l hh) e2_fz) (e2_fa ein_9 (e2_fa ein_35 (e2_fa ein_36 e2_fz))) (by decide) co_a250 ex2_132 ck_a250
