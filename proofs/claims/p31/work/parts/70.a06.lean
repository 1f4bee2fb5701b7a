/-! CONTRACTS a, printed by a program -/
/-! a217 X4_worstReply -/
def as_a217 : List ev_V := [(2, 59, 0), (11, 2147483648, 2147483651), (11, 0, 4294967295), (11, 0, 4294967295)]
def E_a217 : e2_E := [(2147483648, 2147583648, 0, 0), (2147483652, 2147483668, 1, 0)]
noncomputable def f_a217 : ev_H := (an711 : e2_Q8)
noncomputable def q_a217_0 : ev_H := (an711 : e2_Q8)
noncomputable def rs_a217 : e2_Rs := [((11, 2147483647, 2147483667), q_a217_0)]
noncomputable def s_a217 : e2_Sm := (85, as_a217, E_a217, f_a217, rs_a217)
noncomputable def S_a217 : List e2_Sm := [s_a182]
noncomputable def I_a217 : List e2_In := [(159, 2, e2x_159)]
set_option maxRecDepth 1000000 in
theorem co_a217 : e2_okSB E_a217.length as_a217 f_a217 rs_a217 = true := by decide +kernel
def al_a217_0 : List ev_V := [(2, 59, 0), (11, 2147483648, 2147483651), (11, 0, 4294967295), (11, 0, 4294967295), (11, 2147483647, 2147483667), (11, 0, 4294967295), (1, 2, 4294967296), (9, 0, 0)]
def E_a217_0 : e2_E := [(2147483648, 2147583648, 0, 0), (2147483652, 2147483668, 1, 0), (2147483648, 2147483668, 2, 0)]
noncomputable def h_a217_0 : ev_H := (an711 : e2_Q8)
noncomputable def cl_a217_e : List (Nat × e2_S) := [(9, e2_cutL (al_a217_0.set 6 (11, 2147483648, 2147483668)) 2 (E_a217_0.take 2) h_a217_0)]
set_option maxRecDepth 1000000 in
theorem ck_a217_e : e2_run (e2_cal S_a217 I_a217 4000 1) (e2_fin rs_a217) e2x_85 (e2_bpL cl_a217_e) (e2_cutA cl_a217_e) 4000 (e2_seek e2x_85 0) (e2_al 8 as_a217) [] E_a217 f_a217 = true := by decide +kernel
noncomputable def cl_a217_0 : List (Nat × e2_S) := [(9, e2_cutL (al_a217_0.set 6 (13, 10, 2147483668)) 2 (E_a217_0.take 2) h_a217_0)]
set_option maxRecDepth 1000000 in
theorem ck_a217_0 : e2_runM (e2_cal S_a217 I_a217 4000 1) (e2_fin rs_a217) e2x_85 (e2_bpL cl_a217_0) (e2_cutA cl_a217_0) 4000 (e2_seek e2x_85 9) al_a217_0 [] E_a217_0 h_a217_0 = true := by decide +kernel
set_option maxRecDepth 1000000 in
theorem ci_a217_0 : e2_idl 2 (al_a217_0.set 6 (9, 0, 0)) = true := by decide +kernel
set_option maxRecDepth 1000000 in
theorem cj_a217_0 : e2_idh 2 8 h_a217_0 = true := by decide +kernel
theorem cs_a217 (hen : en_ok) (l : Launch) (hh : e2_hand_a l) : e2_smOk l 63 s_a217 := by
  refine e2_conG (H := 61) (n := 1) (C := evd_85) (S := S_a217) (I := I_a217) (fuel := 4000) hen ei_85 (e2_fa (cs_a182 hen l hh) e2_fz) (e2_fa ein_159 e2_fz) (by decide) co_a217 fun M d _ hC hcall p e R s m args below meth c Q D cA A ads r0 ha hl0 => ?_
  have L_0 : e2_gdM M p l e R s m args below meth c Q D cA A ads r0 9 al_a217_0 [] E_a217_0 h_a217_0 := by
    refine e2_indL (u := 2) (j := 6) (lo := 2147483648) (hi := 2147483668) (b := 2) (dd := 0) hl0 (by decide) rfl rfl (Or.inr ⟨rfl, rfl⟩) rfl ci_a217_0 cj_a217_0 ?_
    intro r_0 k_0 hk_0 hp_0 hs_0 hn_0
    have hl_0 : r_0.length ≤ 3 := hs_0.len rfl
    have ha_0 := ha.ext hp_0
    exact e2_fromM hen ha_0 hcall (e2_cutA_ok (e2_fa (fun al st E h hc => hn_0 al st E h hc) e2_fz)) (hC []) (X := e2x_85) ex2_85 9 ck_a217_0
  have EN_0 := e2_entL (u := 2) (j := 6) (lo := 2147483648) (hi := 2147483668) hl0 rfl rfl rfl ci_a217_0 cj_a217_0 L_0
  exact e2_from hen ha hcall (e2_cutA_ok (e2_fa (fun al st E h hc => EN_0 al st E h hc) e2_fz)) (hC []) (X := e2x_85) ex2_85 0 ck_a217_e
/-! a218 X4_worstReply -/
def as_a218 : List ev_V := [(2, 59, 0), (11, 2147483648, 2147483651), (11, 0, 4294967295), (11, 0, 4294967295)]
def E_a218 : e2_E := [(2147483648, 2147583648, 0, 0), (2147483652, 2147483668, 1, 0)]
noncomputable def f_a218 : ev_H := (an704 : e2_Q8)
noncomputable def q_a218_0 : ev_H := (an711 : e2_Q8)
noncomputable def q_a218_1 : ev_H := (an704 : e2_Q8)
noncomputable def rs_a218 : e2_Rs := [((11, 2147483648, 2147483667), q_a218_0), ((0, 4294967295, 0), q_a218_1)]
noncomputable def s_a218 : e2_Sm := (85, as_a218, E_a218, f_a218, rs_a218)
noncomputable def S_a218 : List e2_Sm := [s_a181, s_a182]
noncomputable def I_a218 : List e2_In := [(159, 2, e2x_159)]
set_option maxRecDepth 1000000 in
theorem co_a218 : e2_okSB E_a218.length as_a218 f_a218 rs_a218 = true := by decide +kernel
def al_a218_0 : List ev_V := [(2, 59, 0), (11, 2147483648, 2147483651), (11, 0, 4294967295), (11, 0, 4294967295), (11, 2147483648, 2147483667), (11, 0, 4294967295), (1, 2, 4294967296), (11, 0, 4294967295)]
def E_a218_0 : e2_E := [(2147483648, 2147583648, 0, 0), (2147483652, 2147483668, 1, 0), (2147483649, 2147483668, 2, 0)]
noncomputable def h_a218_0 : ev_H := (an711 : e2_Q8)
def al_a218_1 : List ev_V := [(2, 59, 0), (11, 2147483648, 2147483651), (11, 0, 4294967295), (11, 0, 4294967295), (0, 4294967295, 0), (0, 0, 0), (1, 2, 4294967296), (9, 0, 0)]
def E_a218_1 : e2_E := [(2147483648, 2147583648, 0, 0), (2147483652, 2147483668, 1, 0), (2147483648, 2147483668, 2, 0)]
noncomputable def h_a218_1 : ev_H := (an704 : e2_Q8)
noncomputable def cl_a218_e : List (Nat × e2_S) := [(9, e2_cutL (al_a218_1.set 6 (11, 2147483648, 2147483668)) 2 (E_a218_1.take 2) h_a218_1)]
set_option maxRecDepth 1000000 in
theorem ck_a218_e : e2_run (e2_cal S_a218 I_a218 4000 1) (e2_fin rs_a218) e2x_85 (e2_bpL cl_a218_e) (e2_cutA cl_a218_e) 4000 (e2_seek e2x_85 0) (e2_al 8 as_a218) [] E_a218 f_a218 = true := by decide +kernel
noncomputable def cl_a218_0 : List (Nat × e2_S) := [(9, e2_cutL (al_a218_0.set 6 (13, 10, 2147483668)) 2 (E_a218_0.take 2) h_a218_0)]
set_option maxRecDepth 1000000 in
theorem ck_a218_0 : e2_runM (e2_cal S_a218 I_a218 4000 1) (e2_fin rs_a218) e2x_85 (e2_bpL cl_a218_0) (e2_cutA cl_a218_0) 4000 (e2_seek e2x_85 9) al_a218_0 [] E_a218_0 h_a218_0 = true := by decide +kernel
set_option maxRecDepth 1000000 in
theorem ci_a218_0 : e2_idl 2 (al_a218_0.set 6 (9, 0, 0)) = true := by decide +kernel
set_option maxRecDepth 1000000 in
theorem cj_a218_0 : e2_idh 2 8 h_a218_0 = true := by decide +kernel
noncomputable def cl_a218_1 : List (Nat × e2_S) := [(9, e2_cutL (al_a218_0.set 6 (11, 2147483649, 2147483668)) 2 (E_a218_0.take 2) h_a218_0),
  (9, e2_cutL (al_a218_1.set 6 (13, 10, 2147483668)) 2 (E_a218_1.take 2) h_a218_1)]
set_option maxRecDepth 1000000 in
theorem ck_a218_1 : e2_runM (e2_cal S_a218 I_a218 4000 1) (e2_fin rs_a218) e2x_85 (e2_bpL cl_a218_1) (e2_cutA cl_a218_1) 4000 (e2_seek e2x_85 9) al_a218_1 [] E_a218_1 h_a218_1 = true := by decide +kernel
set_option maxRecDepth 1000000 in
theorem ci_a218_1 : e2_idl 2 (al_a218_1.set 6 (9, 0, 0)) = true := by decide +kernel
set_option maxRecDepth 1000000 in
theorem cj_a218_1 : e2_idh 2 8 h_a218_1 = true := by decide +kernel
theorem cs_a218 (hen : en_ok) (l : Launch) (hh : e2_hand_a l) : e2_smOk l 63 s_a218 := by
  refine e2_conG (H := 61) (n := 1) (C := evd_85) (S := S_a218) (I := I_a218) (fuel := 4000) hen ei_85 (e2_fa (cs_a181 hen l hh) (e2_fa (cs_a182 hen l hh) e2_fz)) (e2_fa ein_159 e2_fz) (by decide) co_a218 fun M d _ hC hcall p e R s m args below meth c Q D cA A ads r0 ha hl0 => ?_
  have L_0 : e2_gdM M p l e R s m args below meth c Q D cA A ads r0 9 al_a218_0 [] E_a218_0 h_a218_0 := by
    refine e2_indL (u := 2) (j := 6) (lo := 2147483649) (hi := 2147483668) (b := 2) (dd := 0) hl0 (by decide) rfl rfl (Or.inr ⟨rfl, rfl⟩) rfl ci_a218_0 cj_a218_0 ?_
    intro r_0 k_0 hk_0 hp_0 hs_0 hn_0
    have hl_0 : r_0.length ≤ 3 := hs_0.len rfl
    have ha_0 := ha.ext hp_0
    exact e2_fromM hen ha_0 hcall (e2_cutA_ok (e2_fa (fun al st E h hc => hn_0 al st E h hc) e2_fz)) (hC []) (X := e2x_85) ex2_85 9 ck_a218_0
  have EN_0 := e2_entL (u := 2) (j := 6) (lo := 2147483649) (hi := 2147483668) hl0 rfl rfl rfl ci_a218_0 cj_a218_0 L_0
  have L_1 : e2_gdM M p l e R s m args below meth c Q D cA A ads r0 9 al_a218_1 [] E_a218_1 h_a218_1 := by
    refine e2_indL (u := 2) (j := 6) (lo := 2147483648) (hi := 2147483668) (b := 2) (dd := 0) hl0 (by decide) rfl rfl (Or.inr ⟨rfl, rfl⟩) rfl ci_a218_1 cj_a218_1 ?_
    intro r_1 k_1 hk_1 hp_1 hs_1 hn_1
    have hl_1 : r_1.length ≤ 3 := hs_1.len rfl
    have ha_1 := ha.ext hp_1
    exact e2_fromM hen ha_1 hcall (e2_cutA_ok (e2_fa (fun al st E h hc => (EN_0 al st E h hc).ext hp_1) (e2_fa (fun al st E h hc => hn_1 al st E h hc) e2_fz))) (hC []) (X := e2x_85) ex2_85 9 ck_a218_1
  have EN_1 := e2_entL (u := 2) (j := 6) (lo := 2147483648) (hi := 2147483668) hl0 rfl rfl rfl ci_a218_1 cj_a218_1 L_1
  exact e2_from hen ha hcall (e2_cutA_ok (e2_fa (fun al st E h hc => EN_1 al st E h hc) e2_fz)) (hC []) (X := e2x_85) ex2_85 0 ck_a218_e
/-! a219 X4_fight -/
def as_a219 : List ev_V := [(2, 59, 0), (11, 2147483648, 2147483651), (11, 0, 4294967295), (11, 0, 4294967295), (11, 2147483648, 2147483650)]
def E_a219 : e2_E := [(2147483648, 2147583648, 0, 0), (2147483652, 2147483668, 1, 0)]
noncomputable def f_a219 : ev_H := (an704 : e2_Q8)
noncomputable def q_a219_0 : ev_H := (an711 : e2_Q8)
noncomputable def q_a219_1 : ev_H := (an704 : e2_Q8)
noncomputable def rs_a219 : e2_Rs := [((11, 0, 4294967295), q_a219_0), ((11, 2147483647, 2147483648), q_a219_1)]
noncomputable def s_a219 : e2_Sm := (84, as_a219, E_a219, f_a219, rs_a219)
noncomputable def S_a219 : List e2_Sm := [s_a181, s_a182, s_a217, s_a218]
noncomputable def I_a219 : List e2_In := [(159, 2, e2x_159)]
set_option maxRecDepth 1000000 in
theorem co_a219 : e2_okSB E_a219.length as_a219 f_a219 rs_a219 = true := by decide +kernel
def al_a219_0 : List ev_V := [(2, 59, 0), (11, 2147483648, 2147483651), (11, 0, 4294967295), (11, 0, 4294967295), (11, 2147483648, 2147483650), (11, 2147483648, 2147483667), (11, 2147483647, 2147483667), (11, 0, 4294967295), (1, 2, 4294967296), (11, 2147483647, 2147483667), (11, 0, 4294967295)]
def E_a219_0 : e2_E := [(2147483648, 2147583648, 0, 0), (2147483652, 2147483668, 1, 0), (2147483649, 2147483668, 2, 0)]
noncomputable def h_a219_0 : ev_H := (an711 : e2_Q8)
def al_a219_1 : List ev_V := [(2, 59, 0), (11, 2147483648, 2147483651), (11, 0, 4294967295), (11, 0, 4294967295), (11, 2147483648, 2147483650), (0, 4294967295, 0), (0, 4294967295, 0), (0, 0, 0), (1, 2, 4294967296), (9, 0, 0), (9, 0, 0)]
def E_a219_1 : e2_E := [(2147483648, 2147583648, 0, 0), (2147483652, 2147483668, 1, 0), (2147483648, 2147483668, 2, 0)]
noncomputable def h_a219_1 : ev_H := (an704 : e2_Q8)
noncomputable def cl_a219_e : List (Nat × e2_S) := [(12, e2_cutL (al_a219_1.set 8 (11, 2147483648, 2147483668)) 2 (E_a219_1.take 2) h_a219_1)]
set_option maxRecDepth 1000000 in
theorem ck_a219_e : e2_run (e2_cal S_a219 I_a219 4000 1) (e2_fin rs_a219) e2x_84 (e2_bpL cl_a219_e) (e2_cutA cl_a219_e) 4000 (e2_seek e2x_84 0) (e2_al 11 as_a219) [] E_a219 f_a219 = true := by decide +kernel
noncomputable def cl_a219_0 : List (Nat × e2_S) := [(12, e2_cutL (al_a219_0.set 8 (13, 10, 2147483668)) 2 (E_a219_0.take 2) h_a219_0)]
set_option maxRecDepth 1000000 in
theorem ck_a219_0 : e2_runM (e2_cal S_a219 I_a219 4000 1) (e2_fin rs_a219) e2x_84 (e2_bpL cl_a219_0) (e2_cutA cl_a219_0) 4000 (e2_seek e2x_84 12) al_a219_0 [] E_a219_0 h_a219_0 = true := by decide +kernel
set_option maxRecDepth 1000000 in
theorem ci_a219_0 : e2_idl 2 (al_a219_0.set 8 (9, 0, 0)) = true := by decide +kernel
set_option maxRecDepth 1000000 in
theorem cj_a219_0 : e2_idh 2 8 h_a219_0 = true := by decide +kernel
noncomputable def cl_a219_1 : List (Nat × e2_S) := [(12, e2_cutL (al_a219_0.set 8 (11, 2147483649, 2147483668)) 2 (E_a219_0.take 2) h_a219_0),
  (12, e2_cutL (al_a219_1.set 8 (13, 10, 2147483668)) 2 (E_a219_1.take 2) h_a219_1)]
set_option maxRecDepth 1000000 in
theorem ck_a219_1 : e2_runM (e2_cal S_a219 I_a219 4000 1) (e2_fin rs_a219) e2x_84 (e2_bpL cl_a219_1) (e2_cutA cl_a219_1) 4000 (e2_seek e2x_84 12) al_a219_1 [] E_a219_1 h_a219_1 = true := by decide +kernel
set_option maxRecDepth 1000000 in
theorem ci_a219_1 : e2_idl 2 (al_a219_1.set 8 (9, 0, 0)) = true := by decide +kernel
set_option maxRecDepth 1000000 in
theorem cj_a219_1 : e2_idh 2 8 h_a219_1 = true := by decide +kernel
theorem cs_a219 (hen : en_ok) (l : Launch) (hh : e2_hand_a l) : e2_smOk l 65 s_a219 := by
  refine e2_conG (H := 63) (n := 1) (C := evd_84) (S := S_a219) (I := I_a219) (fuel := 4000) hen ei_84 (e2_fa ((cs_a181 hen l hh).mono (by decide)) (e2_fa ((cs_a182 hen l hh).mono (by decide)) (e2_fa (cs_a217 hen l hh) (e2_fa (cs_a218 hen l hh) e2_fz)))) (e2_fa ein_159 e2_fz) (by decide) co_a219 fun M d _ hC hcall p e R s m args below meth c Q D cA A ads r0 ha hl0 => ?_
  have L_0 : e2_gdM M p l e R s m args below meth c Q D cA A ads r0 12 al_a219_0 [] E_a219_0 h_a219_0 := by
    refine e2_indL (u := 2) (j := 8) (lo := 2147483649) (hi := 2147483668) (b := 2) (dd := 0) hl0 (by decide) rfl rfl (Or.inr ⟨rfl, rfl⟩) rfl ci_a219_0 cj_a219_0 ?_
    intro r_0 k_0 hk_0 hp_0 hs_0 hn_0
    have hl_0 : r_0.length ≤ 3 := hs_0.len rfl
    have ha_0 := ha.ext hp_0
    exact e2_fromM hen ha_0 hcall (e2_cutA_ok (e2_fa (fun al st E h hc => hn_0 al st E h hc) e2_fz)) (hC []) (X := e2x_84) ex2_84 12 ck_a219_0
  have EN_0 := e2_entL (u := 2) (j := 8) (lo := 2147483649) (hi := 2147483668) hl0 rfl rfl rfl ci_a219_0 cj_a219_0 L_0
  have L_1 : e2_gdM M p l e R s m args below meth c Q D cA A ads r0 12 al_a219_1 [] E_a219_1 h_a219_1 := by
    refine e2_indL (u := 2) (j := 8) (lo := 2147483648) (hi := 2147483668) (b := 2) (dd := 0) hl0 (by decide) rfl rfl (Or.inr ⟨rfl, rfl⟩) rfl ci_a219_1 cj_a219_1 ?_
    intro r_1 k_1 hk_1 hp_1 hs_1 hn_1
    have hl_1 : r_1.length ≤ 3 := hs_1.len rfl
    have ha_1 := ha.ext hp_1
    exact e2_fromM hen ha_1 hcall (e2_cutA_ok (e2_fa (fun al st E h hc => (EN_0 al st E h hc).ext hp_1) (e2_fa (fun al st E h hc => hn_1 al st E h hc) e2_fz))) (hC []) (X := e2x_84) ex2_84 12 ck_a219_1
  have EN_1 := e2_entL (u := 2) (j := 8) (lo := 2147483648) (hi := 2147483668) hl0 rfl rfl rfl ci_a219_1 cj_a219_1 L_1
  exact e2_from hen ha hcall (e2_cutA_ok (e2_fa (fun al st E h hc => EN_1 al st E h hc) e2_fz)) (hC []) (X := e2x_84) ex2_84 0 ck_a219_e
/-! a220 X5_weighEverywhere -/
def as_a220 : List ev_V := [(2, 47, 0), (11, 2147483648, 2147483655), (11, 0, 4294967295)]
def E_a220 : e2_E := [(2147483648, 2147583648, 0, 0), (2147483652, 2147483668, 1, 0)]
def an871 : e2_Q5 := (an258, an29)
def an872 : e2_Q4 := (an266, an44)
def an873 : e2_Q5 := (an872, an439)
def an874 : e2_Q6 := (an871, an873)
def an875 : e2_Q5 := (an279, an92)
def an876 : e2_Q4 := (an289, an380)
def an877 : e2_Q5 := (an876, an123)
def an878 : e2_Q6 := (an875, an877)
def an879 : e2_Q7 := (an874, an878)
def an880 : e2_Q4 := (an300, an445)
def an881 : e2_Q5 := (an880, an156)
def an882 : e2_Q5 := (an315, an451)
def an883 : e2_Q6 := (an881, an882)
def an884 : e2_Q5 := (an323, an457)
def an885 : e2_Q5 := (an397, an333)
def an886 : e2_Q6 := (an884, an885)
def an887 : e2_Q7 := (an883, an886)
def an888 : e2_Q8 := (an879, an887)
noncomputable def f_a220 : ev_H := (an888 : e2_Q8)
noncomputable def q_a220_0 : ev_H := (an888 : e2_Q8)
noncomputable def rs_a220 : e2_Rs := [((9, 0, 0), q_a220_0)]
noncomputable def s_a220 : e2_Sm := (87, as_a220, E_a220, f_a220, rs_a220)
noncomputable def S_a220 : List e2_Sm := [s_a9]
noncomputable def I_a220 : List e2_In := [(121, 5, e2x_121), (160, 2, e2x_160)]
set_option maxRecDepth 1000000 in
theorem co_a220 : e2_okSB E_a220.length as_a220 f_a220 rs_a220 = true := by decide +kernel
def al_a220_0 : List ev_V := [(2, 47, 0), (11, 2147483648, 2147483655), (11, 0, 4294967295), (1, 2, 4294967296)]
def E_a220_0 : e2_E := [(2147483648, 2147583648, 0, 0), (2147483652, 2147483668, 1, 0), (2147483648, 2147483668, 2, 0)]
noncomputable def h_a220_0 : ev_H := (an888 : e2_Q8)
noncomputable def cl_a220_e : List (Nat × e2_S) := [(2, e2_cutL (al_a220_0.set 3 (11, 2147483648, 2147483668)) 2 (E_a220_0.take 2) h_a220_0)]
set_option maxRecDepth 1000000 in
theorem ck_a220_e : e2_run (e2_cal S_a220 I_a220 4000 1) (e2_fin rs_a220) e2x_87 (e2_bpL cl_a220_e) (e2_cutA cl_a220_e) 4000 (e2_seek e2x_87 0) (e2_al 4 as_a220) [] E_a220 f_a220 = true := by decide +kernel
noncomputable def cl_a220_0 : List (Nat × e2_S) := [(2, e2_cutL (al_a220_0.set 3 (13, 10, 2147483668)) 2 (E_a220_0.take 2) h_a220_0)]
set_option maxRecDepth 1000000 in
theorem ck_a220_0 : e2_runM (e2_cal S_a220 I_a220 4000 1) (e2_fin rs_a220) e2x_87 (e2_bpL cl_a220_0) (e2_cutA cl_a220_0) 4000 (e2_seek e2x_87 2) al_a220_0 [] E_a220_0 h_a220_0 = true := by decide +kernel
set_option maxRecDepth 1000000 in
theorem ci_a220_0 : e2_idl 2 (al_a220_0.set 3 (9, 0, 0)) = true := by decide +kernel
set_option maxRecDepth 1000000 in
theorem cj_a220_0 : e2_idh 2 8 h_a220_0 = true := by decide +kernel
theorem cs_a220 (hen : en_ok) (l : Launch) : e2_smOk l 4 s_a220 := by
  refine e2_conG (H := 2) (n := 1) (C := evd_87) (S := S_a220) (I := I_a220) (fuel := 4000) hen ei_87 (e2_fa (cs_a9 hen l) e2_fz) (e2_fa ein_121 (e2_fa ein_160 e2_fz)) (by decide) co_a220 fun M d _ hC hcall p e R s m args below meth c Q D cA A ads r0 ha hl0 => ?_
  have L_0 : e2_gdM M p l e R s m args below meth c Q D cA A ads r0 2 al_a220_0 [] E_a220_0 h_a220_0 := by
    refine e2_indL (u := 2) (j := 3) (lo := 2147483648) (hi := 2147483668) (b := 2) (dd := 0) hl0 (by decide) rfl rfl (Or.inr ⟨rfl, rfl⟩) rfl ci_a220_0 cj_a220_0 ?_
    intro r_0 k_0 hk_0 hp_0 hs_0 hn_0
    have hl_0 : r_0.length ≤ 3 := hs_0.len rfl
    have ha_0 := ha.ext hp_0
    exact e2_fromM hen ha_0 hcall (e2_cutA_ok (e2_fa (fun al st E h hc => hn_0 al st E h hc) e2_fz)) (hC []) (X := e2x_87) ex2_87 2 ck_a220_0
  have EN_0 := e2_entL (u := 2) (j := 3) (lo := 2147483648) (hi := 2147483668) hl0 rfl rfl rfl ci_a220_0 cj_a220_0 L_0
  exact e2_from hen ha hcall (e2_cutA_ok (e2_fa (fun al st E h hc => EN_0 al st E h hc) e2_fz)) (hC []) (X := e2x_87) ex2_87 0 ck_a220_e
/-! a221 X5_begin -/
def as_a221 : List ev_V := [(2, 47, 0), (2, 1, 0), (2, 36, 0), (11, 0, 4294967295)]
def E_a221 : e2_E := [(2147483648, 2147583648, 0, 0), (2147483652, 2147483668, 1, 0)]
def an889 : e2_Q4 := (an617, an269)
def an890 : e2_Q5 := (an889, an439)
def an891 : e2_Q6 := (an871, an890)
def an892 : e2_Q4 := (an275, an372)
def an893 : e2_Q5 := (an892, an92)
def an894 : e2_Q6 := (an893, an295)
def an895 : e2_Q7 := (an891, an894)
def an896 : e2_Q3 := (an310, an631)
def an897 : e2_Q4 := (an896, an314)
def an898 : e2_Q5 := (an897, an451)
def an899 : e2_Q6 := (an881, an898)
def ac187 : ev_C := (5, [(2, 50, 0), (11, 0, 4294967295), (2, 51, 0), (2, 54, 0), (7, 0, 0), (2, 52, 0), (11, 2147483648, 2147483649), (2, 49, 0), (11, 2147483648, 2147483668), (2, 53, 0), (2, 48, 0), (2, 55, 0), (2, 56, 0), (2, 57, 0), (2, 58, 0)])
def an900 : e2_Q1 := (ac187, ac3)
def an901 : e2_Q2 := (an900, an240)
def an902 : e2_Q3 := (an238, an901)
def an903 : e2_Q4 := (an902, an249)
def an904 : e2_Q5 := (an641, an903)
def an905 : e2_Q6 := (an884, an904)
def an906 : e2_Q7 := (an899, an905)
def an907 : e2_Q8 := (an895, an906)
noncomputable def f_a221 : ev_H := (an907 : e2_Q8)
def an908 : e2_Q6 := (an875, an295)
def an909 : e2_Q7 := (an891, an908)
def an910 : e2_Q5 := (an641, an333)
def an911 : e2_Q6 := (an884, an910)
def an912 : e2_Q7 := (an899, an911)
def an913 : e2_Q8 := (an909, an912)
noncomputable def q_a221_0 : ev_H := (an913 : e2_Q8)
noncomputable def rs_a221 : e2_Rs := [((9, 0, 0), q_a221_0)]
noncomputable def s_a221 : e2_Sm := (86, as_a221, E_a221, f_a221, rs_a221)
noncomputable def S_a221 : List e2_Sm := [s_a220]
noncomputable def I_a221 : List e2_In := []
set_option maxRecDepth 1000000 in
theorem co_a221 : e2_okSB E_a221.length as_a221 f_a221 rs_a221 = true := by decide +kernel
def al_a221_0 : List ev_V := [(2, 47, 0), (2, 1, 0), (2, 36, 0), (11, 0, 4294967295), (1, 1, 4294967296), (1, 2, 4294967296)]
def E_a221_0 : e2_E := [(2147483648, 2147583648, 0, 0), (2147483652, 2147483668, 1, 0), (2147483648, 2147483656, 2, 0)]
noncomputable def h_a221_0 : ev_H := (an913 : e2_Q8)
noncomputable def cl_a221_e : List (Nat × e2_S) := [(74, e2_cutL (al_a221_0.set 5 (11, 2147483648, 2147483656)) 2 (E_a221_0.take 2) h_a221_0)]
set_option maxRecDepth 1000000 in
theorem ck_a221_e : e2_run (e2_cal S_a221 I_a221 4000 0) (e2_fin rs_a221) e2x_86 (e2_bpL cl_a221_e) (e2_cutA cl_a221_e) 4000 (e2_seek e2x_86 0) (e2_al 6 as_a221) [] E_a221 f_a221 = true := by decide +kernel
noncomputable def cl_a221_0 : List (Nat × e2_S) := [(74, e2_cutL (al_a221_0.set 5 (13, 10, 2147483656)) 2 (E_a221_0.take 2) h_a221_0)]
set_option maxRecDepth 1000000 in
theorem ck_a221_0 : e2_runM (e2_cal S_a221 I_a221 4000 0) (e2_fin rs_a221) e2x_86 (e2_bpL cl_a221_0) (e2_cutA cl_a221_0) 4000 (e2_seek e2x_86 74) al_a221_0 [] E_a221_0 h_a221_0 = true := by decide +kernel
set_option maxRecDepth 1000000 in
theorem ci_a221_0 : e2_idl 2 (al_a221_0.set 5 (9, 0, 0)) = true := by decide +kernel
set_option maxRecDepth 1000000 in
theorem cj_a221_0 : e2_idh 2 8 h_a221_0 = true := by decide +kernel
theorem cs_a221 (hen : en_ok) (l : Launch) : e2_smOk l 5 s_a221 := by
  refine e2_conG (H := 4) (n := 0) (C := evd_86) (S := S_a221) (I := I_a221) (fuel := 4000) hen ei_86 (e2_fa (cs_a220 hen l) e2_fz) e2_fz (by decide) co_a221 fun M d _ hC hcall p e R s m args below meth c Q D cA A ads r0 ha hl0 => ?_
  have L_0 : e2_gdM M p l e R s m args below meth c Q D cA A ads r0 74 al_a221_0 [] E_a221_0 h_a221_0 := by
    refine e2_indL (u := 2) (j := 5) (lo := 2147483648) (hi := 2147483656) (b := 2) (dd := 0) hl0 (by decide) rfl rfl (Or.inr ⟨rfl, rfl⟩) rfl ci_a221_0 cj_a221_0 ?_
    intro r_0 k_0 hk_0 hp_0 hs_0 hn_0
    have hl_0 : r_0.length ≤ 3 := hs_0.len rfl
    have ha_0 := ha.ext hp_0
    exact e2_fromM hen ha_0 hcall (e2_cutA_ok (e2_fa (fun al st E h hc => hn_0 al st E h hc) e2_fz)) (hC []) (X := e2x_86) ex2_86 74 ck_a221_0
  have EN_0 := e2_entL (u := 2) (j := 5) (lo := 2147483648) (hi := 2147483656) hl0 rfl rfl rfl ci_a221_0 cj_a221_0 L_0
  exact e2_from hen ha hcall (e2_cutA_ok (e2_fa (fun al st E h hc => EN_0 al st E h hc) e2_fz)) (hC []) (X := e2x_86) ex2_86 0 ck_a221_e
/-! a222 X5_begin -/
def as_a222 : List ev_V := [(2, 47, 0), (2, 1, 0), (2, 40, 0), (11, 0, 4294967295)]
def E_a222 : e2_E := [(2147483648, 2147583648, 0, 0), (2147483652, 2147483668, 1, 0)]
def ac188 : ev_C := (6, [(11, 0, 4294967295), (11, 0, 4294967295), (11, 0, 4294967295), (2, 42, 0), (2, 41, 0), (2, 43, 0)])
def an914 : e2_Q1 := (ac188, ac3)
def an915 : e2_Q2 := (an914, an19)
def an916 : e2_Q3 := (an17, an915)
def an917 : e2_Q4 := (an916, an28)
def an918 : e2_Q5 := (an258, an917)
def an919 : e2_Q5 := (an270, an439)
def an920 : e2_Q6 := (an918, an919)
def an921 : e2_Q7 := (an920, an894)
def an922 : e2_Q2 := (an630, an146)
def an923 : e2_Q3 := (an144, an922)
def an924 : e2_Q4 := (an923, an155)
def an925 : e2_Q5 := (an880, an924)
def an926 : e2_Q6 := (an925, an882)
def an927 : e2_Q7 := (an926, an905)
def an928 : e2_Q8 := (an921, an927)
noncomputable def f_a222 : ev_H := (an928 : e2_Q8)
def an929 : e2_Q7 := (an920, an908)
def an930 : e2_Q7 := (an926, an911)
def an931 : e2_Q8 := (an929, an930)
noncomputable def q_a222_0 : ev_H := (an931 : e2_Q8)
noncomputable def rs_a222 : e2_Rs := [((9, 0, 0), q_a222_0)]
noncomputable def s_a222 : e2_Sm := (86, as_a222, E_a222, f_a222, rs_a222)
noncomputable def S_a222 : List e2_Sm := [s_a220]
noncomputable def I_a222 : List e2_In := []
set_option maxRecDepth 1000000 in
theorem co_a222 : e2_okSB E_a222.length as_a222 f_a222 rs_a222 = true := by decide +kernel
def al_a222_0 : List ev_V := [(2, 47, 0), (2, 1, 0), (2, 40, 0), (11, 0, 4294967295), (1, 1, 4294967296), (1, 2, 4294967296)]
def E_a222_0 : e2_E := [(2147483648, 2147583648, 0, 0), (2147483652, 2147483668, 1, 0), (2147483648, 2147483656, 2, 0)]
noncomputable def h_a222_0 : ev_H := (an931 : e2_Q8)
noncomputable def cl_a222_e : List (Nat × e2_S) := [(74, e2_cutL (al_a222_0.set 5 (11, 2147483648, 2147483656)) 2 (E_a222_0.take 2) h_a222_0)]
set_option maxRecDepth 1000000 in
theorem ck_a222_e : e2_run (e2_cal S_a222 I_a222 4000 0) (e2_fin rs_a222) e2x_86 (e2_bpL cl_a222_e) (e2_cutA cl_a222_e) 4000 (e2_seek e2x_86 0) (e2_al 6 as_a222) [] E_a222 f_a222 = true := by decide +kernel
noncomputable def cl_a222_0 : List (Nat × e2_S) := [(74, e2_cutL (al_a222_0.set 5 (13, 10, 2147483656)) 2 (E_a222_0.take 2) h_a222_0)]
set_option maxRecDepth 1000000 in
theorem ck_a222_0 : e2_runM (e2_cal S_a222 I_a222 4000 0) (e2_fin rs_a222) e2x_86 (e2_bpL cl_a222_0) (e2_cutA cl_a222_0) 4000 (e2_seek e2x_86 74) al_a222_0 [] E_a222_0 h_a222_0 = true := by decide +kernel
set_option maxRecDepth 1000000 in
theorem ci_a222_0 : e2_idl 2 (al_a222_0.set 5 (9, 0, 0)) = true := by decide +kernel
set_option maxRecDepth 1000000 in
theorem cj_a222_0 : e2_idh 2 8 h_a222_0 = true := by decide +kernel
theorem cs_a222 (hen : en_ok) (l : Launch) : e2_smOk l 5 s_a222 := by
  refine e2_conG (H := 4) (n := 0) (C := evd_86) (S := S_a222) (I := I_a222) (fuel := 4000) hen ei_86 (e2_fa (cs_a220 hen l) e2_fz) e2_fz (by decide) co_a222 fun M d _ hC hcall p e R s m args below meth c Q D cA A ads r0 ha hl0 => ?_
  have L_0 : e2_gdM M p l e R s m args below meth c Q D cA A ads r0 74 al_a222_0 [] E_a222_0 h_a222_0 := by
    refine e2_indL (u := 2) (j := 5) (lo := 2147483648) (hi := 2147483656) (b := 2) (dd := 0) hl0 (by decide) rfl rfl (Or.inr ⟨rfl, rfl⟩) rfl ci_a222_0 cj_a222_0 ?_
    intro r_0 k_0 hk_0 hp_0 hs_0 hn_0
    have hl_0 : r_0.length ≤ 3 := hs_0.len rfl
    have ha_0 := ha.ext hp_0
    exact e2_fromM hen ha_0 hcall (e2_cutA_ok (e2_fa (fun al st E h hc => hn_0 al st E h hc) e2_fz)) (hC []) (X := e2x_86) ex2_86 74 ck_a222_0
  have EN_0 := e2_entL (u := 2) (j := 5) (lo := 2147483648) (hi := 2147483656) hl0 rfl rfl rfl ci_a222_0 cj_a222_0 L_0
  exact e2_from hen ha hcall (e2_cutA_ok (e2_fa (fun al st E h hc => EN_0 al st E h hc) e2_fz)) (hC []) (X := e2x_86) ex2_86 0 ck_a222_e
/-! a223 X5_gainOf -/
def as_a223 : List ev_V := [(2, 47, 0), (11, 2147483648, 2147483651)]
def E_a223 : e2_E := [(2147483648, 2147583648, 0, 0), (2147483652, 2147483668, 1, 0)]
def an932 : e2_Q6 := (an673, an61)
def an933 : e2_Q4 := (an84, an284)
def an934 : e2_Q5 := (an427, an933)
def an935 : e2_Q6 := (an934, an124)
def an936 : e2_Q7 := (an932, an935)
def an937 : e2_Q5 := (an697, an352)
def an938 : e2_Q6 := (an432, an937)
def an939 : e2_Q7 := (an770, an938)
def an940 : e2_Q8 := (an936, an939)
noncomputable def f_a223 : ev_H := (an940 : e2_Q8)
noncomputable def q_a223_0 : ev_H := (an940 : e2_Q8)
noncomputable def rs_a223 : e2_Rs := [((11, 0, 4294967295), q_a223_0)]
noncomputable def s_a223 : e2_Sm := (95, as_a223, E_a223, f_a223, rs_a223)
noncomputable def S_a223 : List e2_Sm := []
noncomputable def I_a223 : List e2_In := []
set_option maxRecDepth 1000000 in
theorem co_a223 : e2_okSB E_a223.length as_a223 f_a223 rs_a223 = true := by decide +kernel
def al_a223_0 : List ev_V := [(2, 47, 0), (11, 2147483648, 2147483651), (11, 0, 4294967295), (1, 2, 4294967296)]
def E_a223_0 : e2_E := [(2147483648, 2147583648, 0, 0), (2147483652, 2147483668, 1, 0), (2147483648, 2147483668, 2, 0)]
noncomputable def h_a223_0 : ev_H := (an940 : e2_Q8)
noncomputable def cl_a223_e : List (Nat × e2_S) := [(4, e2_cutL (al_a223_0.set 3 (11, 2147483648, 2147483668)) 2 (E_a223_0.take 2) h_a223_0)]
set_option maxRecDepth 1000000 in
theorem ck_a223_e : e2_run (e2_cal S_a223 I_a223 4000 0) (e2_fin rs_a223) e2x_95 (e2_bpL cl_a223_e) (e2_cutA cl_a223_e) 4000 (e2_seek e2x_95 0) (e2_al 4 as_a223) [] E_a223 f_a223 = true := by decide +kernel
noncomputable def cl_a223_0 : List (Nat × e2_S) := [(4, e2_cutL (al_a223_0.set 3 (13, 10, 2147483668)) 2 (E_a223_0.take 2) h_a223_0)]
set_option maxRecDepth 1000000 in
theorem ck_a223_0 : e2_runM (e2_cal S_a223 I_a223 4000 0) (e2_fin rs_a223) e2x_95 (e2_bpL cl_a223_0) (e2_cutA cl_a223_0) 4000 (e2_seek e2x_95 4) al_a223_0 [] E_a223_0 h_a223_0 = true := by decide +kernel
set_option maxRecDepth 1000000 in
theorem ci_a223_0 : e2_idl 2 (al_a223_0.set 3 (9, 0, 0)) = true := by decide +kernel
set_option maxRecDepth 1000000 in
theorem cj_a223_0 : e2_idh 2 8 h_a223_0 = true := by decide +kernel
theorem cs_a223 (hen : en_ok) (l : Launch) : e2_smOk l 1 s_a223 := by
  refine e2_conG (H := 0) (n := 0) (C := evd_95) (S := S_a223) (I := I_a223) (fuel := 4000) hen ei_95 e2_fz e2_fz (by decide) co_a223 fun M d _ hC hcall p e R s m args below meth c Q D cA A ads r0 ha hl0 => ?_
  have L_0 : e2_gdM M p l e R s m args below meth c Q D cA A ads r0 4 al_a223_0 [] E_a223_0 h_a223_0 := by
    refine e2_indL (u := 2) (j := 3) (lo := 2147483648) (hi := 2147483668) (b := 2) (dd := 0) hl0 (by decide) rfl rfl (Or.inr ⟨rfl, rfl⟩) rfl ci_a223_0 cj_a223_0 ?_
    intro r_0 k_0 hk_0 hp_0 hs_0 hn_0
    have hl_0 : r_0.length ≤ 3 := hs_0.len rfl
    have ha_0 := ha.ext hp_0
    exact e2_fromM hen ha_0 hcall (e2_cutA_ok (e2_fa (fun al st E h hc => hn_0 al st E h hc) e2_fz)) (hC []) (X := e2x_95) ex2_95 4 ck_a223_0
  have EN_0 := e2_entL (u := 2) (j := 3) (lo := 2147483648) (hi := 2147483668) hl0 rfl rfl rfl ci_a223_0 cj_a223_0 L_0
  exact e2_from hen ha hcall (e2_cutA_ok (e2_fa (fun al st E h hc => EN_0 al st E h hc) e2_fz)) (hC []) (X := e2x_95) ex2_95 0 ck_a223_e
/-! a224 X5_takesAway -/
def as_a224 : List ev_V := [(2, 47, 0)]
def E_a224 : e2_E := [(2147483648, 2147583648, 0, 0), (2147483652, 2147483668, 1, 0)]
def an941 : e2_Q5 := (an235, an352)
def an942 : e2_Q6 := (an432, an941)
def an943 : e2_Q7 := (an770, an942)
def an944 : e2_Q8 := (an936, an943)
noncomputable def f_a224 : ev_H := (an944 : e2_Q8)
noncomputable def q_a224_0 : ev_H := (an944 : e2_Q8)
noncomputable def rs_a224 : e2_Rs := [((11, 2147483648, 2147483649), q_a224_0)]
noncomputable def s_a224 : e2_Sm := (96, as_a224, E_a224, f_a224, rs_a224)
noncomputable def S_a224 : List e2_Sm := []
noncomputable def I_a224 : List e2_In := []
set_option maxRecDepth 1000000 in
theorem co_a224 : e2_okSB E_a224.length as_a224 f_a224 rs_a224 = true := by decide +kernel
def al_a224_0 : List ev_V := [(2, 47, 0), (1, 2, 4294967296)]
def E_a224_0 : e2_E := [(2147483648, 2147583648, 0, 0), (2147483652, 2147483668, 1, 0), (2147483648, 2147483668, 2, 0)]
noncomputable def h_a224_0 : ev_H := (an944 : e2_Q8)
noncomputable def cl_a224_e : List (Nat × e2_S) := [(2, e2_cutL (al_a224_0.set 1 (11, 2147483648, 2147483668)) 2 (E_a224_0.take 2) h_a224_0)]
set_option maxRecDepth 1000000 in
theorem ck_a224_e : e2_run (e2_cal S_a224 I_a224 4000 0) (e2_fin rs_a224) e2x_96 (e2_bpL cl_a224_e) (e2_cutA cl_a224_e) 4000 (e2_seek e2x_96 0) (e2_al 2 as_a224) [] E_a224 f_a224 = true := by decide +kernel
noncomputable def cl_a224_0 : List (Nat × e2_S) := [(2, e2_cutL (al_a224_0.set 1 (13, 10, 2147483668)) 2 (E_a224_0.take 2) h_a224_0)]
set_option maxRecDepth 1000000 in
theorem ck_a224_0 : e2_runM (e2_cal S_a224 I_a224 4000 0) (e2_fin rs_a224) e2x_96 (e2_bpL cl_a224_0) (e2_cutA cl_a224_0) 4000 (e2_seek e2x_96 2) al_a224_0 [] E_a224_0 h_a224_0 = true := by decide +kernel
set_option maxRecDepth 1000000 in
theorem ci_a224_0 : e2_idl 2 (al_a224_0.set 1 (9, 0, 0)) = true := by decide +kernel
set_option maxRecDepth 1000000 in
theorem cj_a224_0 : e2_idh 2 8 h_a224_0 = true := by decide +kernel
theorem cs_a224 (hen : en_ok) (l : Launch) : e2_smOk l 1 s_a224 := by
  refine e2_conG (H := 0) (n := 0) (C := evd_96) (S := S_a224) (I := I_a224) (fuel := 4000) hen ei_96 e2_fz e2_fz (by decide) co_a224 fun M d _ hC hcall p e R s m args below meth c Q D cA A ads r0 ha hl0 => ?_
  have L_0 : e2_gdM M p l e R s m args below meth c Q D cA A ads r0 2 al_a224_0 [] E_a224_0 h_a224_0 := by
    refine e2_indL (u := 2) (j := 1) (lo := 2147483648) (hi := 2147483668) (b := 2) (dd := 0) hl0 (by decide) rfl rfl (Or.inr ⟨rfl, rfl⟩) rfl ci_a224_0 cj_a224_0 ?_
    intro r_0 k_0 hk_0 hp_0 hs_0 hn_0
    have hl_0 : r_0.length ≤ 3 := hs_0.len rfl
    have ha_0 := ha.ext hp_0
    exact e2_fromM hen ha_0 hcall (e2_cutA_ok (e2_fa (fun al st E h hc => hn_0 al st E h hc) e2_fz)) (hC []) (X := e2x_96) ex2_96 2 ck_a224_0
  have EN_0 := e2_entL (u := 2) (j := 1) (lo := 2147483648) (hi := 2147483668) hl0 rfl rfl rfl ci_a224_0 cj_a224_0 L_0
  exact e2_from hen ha hcall (e2_cutA_ok (e2_fa (fun al st E h hc => EN_0 al st E h hc) e2_fz)) (hC []) (X := e2x_96) ex2_96 0 ck_a224_e
/-! a225 X5_cellsOf -/
def as_a225 : List ev_V := [(2, 47, 0), (11, 2147483648, 2147483655)]
def E_a225 : e2_E := [(2147483648, 2147583648, 0, 0), (2147483652, 2147483668, 1, 0)]
def an945 : e2_Q7 := (an62, an935)
def an946 : e2_Q4 := (an148, an306)
def an947 : e2_Q5 := (an141, an946)
def an948 : e2_Q6 := (an947, an188)
def an949 : e2_Q7 := (an948, an942)
def an950 : e2_Q8 := (an945, an949)
noncomputable def f_a225 : ev_H := (an950 : e2_Q8)
noncomputable def q_a225_0 : ev_H := (an950 : e2_Q8)
noncomputable def rs_a225 : e2_Rs := [((11, 0, 4294967295), q_a225_0)]
noncomputable def s_a225 : e2_Sm := (97, as_a225, E_a225, f_a225, rs_a225)
noncomputable def S_a225 : List e2_Sm := []
noncomputable def I_a225 : List e2_In := []
set_option maxRecDepth 1000000 in
theorem co_a225 : e2_okSB E_a225.length as_a225 f_a225 rs_a225 = true := by decide +kernel
def al_a225_0 : List ev_V := [(2, 47, 0), (11, 2147483648, 2147483655), (11, 0, 4294967295), (1, 2, 4294967296)]
def E_a225_0 : e2_E := [(2147483648, 2147583648, 0, 0), (2147483652, 2147483668, 1, 0), (2147483648, 2147483668, 2, 0)]
noncomputable def h_a225_0 : ev_H := (an950 : e2_Q8)
noncomputable def cl_a225_e : List (Nat × e2_S) := [(4, e2_cutL (al_a225_0.set 3 (11, 2147483648, 2147483668)) 2 (E_a225_0.take 2) h_a225_0)]
set_option maxRecDepth 1000000 in
theorem ck_a225_e : e2_run (e2_cal S_a225 I_a225 4000 0) (e2_fin rs_a225) e2x_97 (e2_bpL cl_a225_e) (e2_cutA cl_a225_e) 4000 (e2_seek e2x_97 0) (e2_al 4 as_a225) [] E_a225 f_a225 = true := by decide +kernel
noncomputable def cl_a225_0 : List (Nat × e2_S) := [(4, e2_cutL (al_a225_0.set 3 (13, 10, 2147483668)) 2 (E_a225_0.take 2) h_a225_0)]
set_option maxRecDepth 1000000 in
theorem ck_a225_0 : e2_runM (e2_cal S_a225 I_a225 4000 0) (e2_fin rs_a225) e2x_97 (e2_bpL cl_a225_0) (e2_cutA cl_a225_0) 4000 (e2_seek e2x_97 4) al_a225_0 [] E_a225_0 h_a225_0 = true := by decide +kernel
set_option maxRecDepth 1000000 in
theorem ci_a225_0 : e2_idl 2 (al_a225_0.set 3 (9, 0, 0)) = true := by decide +kernel
set_option maxRecDepth 1000000 in
theorem cj_a225_0 : e2_idh 2 8 h_a225_0 = true := by decide +kernel
theorem cs_a225 (hen : en_ok) (l : Launch) : e2_smOk l 1 s_a225 := by
  refine e2_conG (H := 0) (n := 0) (C := evd_97) (S := S_a225) (I := I_a225) (fuel := 4000) hen ei_97 e2_fz e2_fz (by decide) co_a225 fun M d _ hC hcall p e R s m args below meth c Q D cA A ads r0 ha hl0 => ?_
  have L_0 : e2_gdM M p l e R s m args below meth c Q D cA A ads r0 4 al_a225_0 [] E_a225_0 h_a225_0 := by
    refine e2_indL (u := 2) (j := 3) (lo := 2147483648) (hi := 2147483668) (b := 2) (dd := 0) hl0 (by decide) rfl rfl (Or.inr ⟨rfl, rfl⟩) rfl ci_a225_0 cj_a225_0 ?_
    intro r_0 k_0 hk_0 hp_0 hs_0 hn_0
    have hl_0 : r_0.length ≤ 3 := hs_0.len rfl
    have ha_0 := ha.ext hp_0
    exact e2_fromM hen ha_0 hcall (e2_cutA_ok (e2_fa (fun al st E h hc => hn_0 al st E h hc) e2_fz)) (hC []) (X := e2x_97) ex2_97 4 ck_a225_0
  have EN_0 := e2_entL (u := 2) (j := 3) (lo := 2147483648) (hi := 2147483668) hl0 rfl rfl rfl ci_a225_0 cj_a225_0 L_0
  exact e2_from hen ha hcall (e2_cutA_ok (e2_fa (fun al st E h hc => EN_0 al st E h hc) e2_fz)) (hC []) (X := e2x_97) ex2_97 0 ck_a225_e
/-! a226 X5_signAt -/
def as_a226 : List ev_V := [(2, 47, 0), (11, 2147483648, 2147483667)]
def E_a226 : e2_E := [(2147483648, 2147583648, 0, 0), (2147483652, 2147483668, 1, 0)]
noncomputable def f_a226 : ev_H := (an950 : e2_Q8)
noncomputable def q_a226_0 : ev_H := (an950 : e2_Q8)
noncomputable def rs_a226 : e2_Rs := [((11, 2147483647, 2147483655), q_a226_0)]
noncomputable def s_a226 : e2_Sm := (98, as_a226, E_a226, f_a226, rs_a226)
noncomputable def S_a226 : List e2_Sm := []
noncomputable def I_a226 : List e2_In := []
set_option maxRecDepth 1000000 in
theorem co_a226 : e2_okSB E_a226.length as_a226 f_a226 rs_a226 = true := by decide +kernel
def al_a226_0 : List ev_V := [(2, 47, 0), (11, 2147483648, 2147483667), (1, 2, 4294967296)]
def E_a226_0 : e2_E := [(2147483648, 2147583648, 0, 0), (2147483652, 2147483668, 1, 0), (2147483648, 2147483668, 2, 0)]
noncomputable def h_a226_0 : ev_H := (an950 : e2_Q8)
noncomputable def cl_a226_e : List (Nat × e2_S) := [(2, e2_cutL (al_a226_0.set 2 (11, 2147483648, 2147483668)) 2 (E_a226_0.take 2) h_a226_0)]
set_option maxRecDepth 1000000 in
theorem ck_a226_e : e2_run (e2_cal S_a226 I_a226 4000 0) (e2_fin rs_a226) e2x_98 (e2_bpL cl_a226_e) (e2_cutA cl_a226_e) 4000 (e2_seek e2x_98 0) (e2_al 3 as_a226) [] E_a226 f_a226 = true := by decide +kernel
noncomputable def cl_a226_0 : List (Nat × e2_S) := [(2, e2_cutL (al_a226_0.set 2 (13, 10, 2147483668)) 2 (E_a226_0.take 2) h_a226_0)]
set_option maxRecDepth 1000000 in
theorem ck_a226_0 : e2_runM (e2_cal S_a226 I_a226 4000 0) (e2_fin rs_a226) e2x_98 (e2_bpL cl_a226_0) (e2_cutA cl_a226_0) 4000 (e2_seek e2x_98 2) al_a226_0 [] E_a226_0 h_a226_0 = true := by decide +kernel
set_option maxRecDepth 1000000 in
theorem ci_a226_0 : e2_idl 2 (al_a226_0.set 2 (9, 0, 0)) = true := by decide +kernel
set_option maxRecDepth 1000000 in
theorem cj_a226_0 : e2_idh 2 8 h_a226_0 = true := by decide +kernel
theorem cs_a226 (hen : en_ok) (l : Launch) : e2_smOk l 1 s_a226 := by
  refine e2_conG (H := 0) (n := 0) (C := evd_98) (S := S_a226) (I := I_a226) (fuel := 4000) hen ei_98 e2_fz e2_fz (by decide) co_a226 fun M d _ hC hcall p e R s m args below meth c Q D cA A ads r0 ha hl0 => ?_
  have L_0 : e2_gdM M p l e R s m args below meth c Q D cA A ads r0 2 al_a226_0 [] E_a226_0 h_a226_0 := by
    refine e2_indL (u := 2) (j := 2) (lo := 2147483648) (hi := 2147483668) (b := 2) (dd := 0) hl0 (by decide) rfl rfl (Or.inr ⟨rfl, rfl⟩) rfl ci_a226_0 cj_a226_0 ?_
    intro r_0 k_0 hk_0 hp_0 hs_0 hn_0
    have hl_0 : r_0.length ≤ 3 := hs_0.len rfl
    have ha_0 := ha.ext hp_0
    exact e2_fromM hen ha_0 hcall (e2_cutA_ok (e2_fa (fun al st E h hc => hn_0 al st E h hc) e2_fz)) (hC []) (X := e2x_98) ex2_98 2 ck_a226_0
  have EN_0 := e2_entL (u := 2) (j := 2) (lo := 2147483648) (hi := 2147483668) hl0 rfl rfl rfl ci_a226_0 cj_a226_0 L_0
  exact e2_from hen ha hcall (e2_cutA_ok (e2_fa (fun al st E h hc => EN_0 al st E h hc) e2_fz)) (hC []) (X := e2x_98) ex2_98 0 ck_a226_e
/-! a227 X6_turnYear -/
def as_a227 : List ev_V := [(2, 36, 0), (2, 1, 0)]
def E_a227 : e2_E := [(2147483648, 2147583648, 0, 0), (2147483652, 2147483668, 1, 0)]
def an951 : e2_Q3 := (an33, an616)
def an952 : e2_Q4 := (an951, an44)
def an953 : e2_Q5 := (an952, an60)
def an954 : e2_Q6 := (an465, an953)
def an955 : e2_Q2 := (an712, an98)
def an956 : e2_Q3 := (an96, an955)
def an957 : e2_Q4 := (an956, an107)
def an958 : e2_Q5 := (an957, an470)
def an959 : e2_Q6 := (an428, an958)
def an960 : e2_Q7 := (an954, an959)
def an961 : e2_Q7 := (an770, an481)
def an962 : e2_Q8 := (an960, an961)
noncomputable def f_a227 : ev_H := (an962 : e2_Q8)
noncomputable def q_a227_0 : ev_H := (an962 : e2_Q8)
noncomputable def rs_a227 : e2_Rs := [((9, 0, 0), q_a227_0)]
noncomputable def s_a227 : e2_Sm := (103, as_a227, E_a227, f_a227, rs_a227)
noncomputable def S_a227 : List e2_Sm := [s_a10]
noncomputable def I_a227 : List e2_In := [(101, 2, e2x_101), (159, 2, e2x_159)]
set_option maxRecDepth 1000000 in
theorem co_a227 : e2_okSB E_a227.length as_a227 f_a227 rs_a227 = true := by decide +kernel
def al_a227_0 : List ev_V := [(2, 36, 0), (2, 1, 0), (1, 2, 4294967296)]
def E_a227_0 : e2_E := [(2147483648, 2147583648, 0, 0), (2147483652, 2147483668, 1, 0), (2147483648, 2147483668, 2, 0)]
noncomputable def h_a227_0 : ev_H := (an962 : e2_Q8)
noncomputable def cl_a227_e : List (Nat × e2_S) := [(86, e2_cutL (al_a227_0.set 2 (11, 2147483648, 2147483668)) 2 (E_a227_0.take 2) h_a227_0)]
set_option maxRecDepth 1000000 in
theorem ck_a227_e : e2_run (e2_cal S_a227 I_a227 4000 1) (e2_fin rs_a227) e2x_103 (e2_bpL cl_a227_e) (e2_cutA cl_a227_e) 4000 (e2_seek e2x_103 0) (e2_al 3 as_a227) [] E_a227 f_a227 = true := by decide +kernel
noncomputable def cl_a227_0 : List (Nat × e2_S) := [(86, e2_cutL (al_a227_0.set 2 (13, 10, 2147483668)) 2 (E_a227_0.take 2) h_a227_0)]
set_option maxRecDepth 1000000 in
theorem ck_a227_0 : e2_runM (e2_cal S_a227 I_a227 4000 1) (e2_fin rs_a227) e2x_103 (e2_bpL cl_a227_0) (e2_cutA cl_a227_0) 4000 (e2_seek e2x_103 86) al_a227_0 [] E_a227_0 h_a227_0 = true := by decide +kernel
set_option maxRecDepth 1000000 in
theorem ci_a227_0 : e2_idl 2 (al_a227_0.set 2 (9, 0, 0)) = true := by decide +kernel
set_option maxRecDepth 1000000 in
theorem cj_a227_0 : e2_idh 2 8 h_a227_0 = true := by decide +kernel
theorem cs_a227 (hen : en_ok) (l : Launch) : e2_smOk l 4 s_a227 := by
  refine e2_conG (H := 2) (n := 1) (C := evd_103) (S := S_a227) (I := I_a227) (fuel := 4000) hen ei_103 (e2_fa (cs_a10 hen l) e2_fz) (e2_fa ein_101 (e2_fa ein_159 e2_fz)) (by decide) co_a227 fun M d _ hC hcall p e R s m args below meth c Q D cA A ads r0 ha hl0 => ?_
  have L_0 : e2_gdM M p l e R s m args below meth c Q D cA A ads r0 86 al_a227_0 [] E_a227_0 h_a227_0 := by
    refine e2_indL (u := 2) (j := 2) (lo := 2147483648) (hi := 2147483668) (b := 2) (dd := 0) hl0 (by decide) rfl rfl (Or.inr ⟨rfl, rfl⟩) rfl ci_a227_0 cj_a227_0 ?_
    intro r_0 k_0 hk_0 hp_0 hs_0 hn_0
    have hl_0 : r_0.length ≤ 3 := hs_0.len rfl
    have ha_0 := ha.ext hp_0
    exact e2_fromM hen ha_0 hcall (e2_cutA_ok (e2_fa (fun al st E h hc => hn_0 al st E h hc) e2_fz)) (hC []) (X := e2x_103) ex2_103 86 ck_a227_0
  have EN_0 := e2_entL (u := 2) (j := 2) (lo := 2147483648) (hi := 2147483668) hl0 rfl rfl rfl ci_a227_0 cj_a227_0 L_0
  exact e2_from hen ha hcall (e2_cutA_ok (e2_fa (fun al st E h hc => EN_0 al st E h hc) e2_fz)) (hC []) (X := e2x_103) ex2_103 0 ck_a227_e
/-! a228 X6_turnYear -/
def as_a228 : List ev_V := [(2, 40, 0), (2, 1, 0)]
def E_a228 : e2_E := [(2147483648, 2147583648, 0, 0), (2147483652, 2147483668, 1, 0)]
def an963 : e2_Q5 := (an464, an917)
def an964 : e2_Q6 := (an963, an61)
def an965 : e2_Q2 := (an712, an82)
def an966 : e2_Q3 := (an80, an965)
def an967 : e2_Q4 := (an966, an91)
def an968 : e2_Q5 := (an427, an967)
def an969 : e2_Q6 := (an968, an471)
def an970 : e2_Q7 := (an964, an969)
def an971 : e2_Q7 := (an770, an489)
def an972 : e2_Q8 := (an970, an971)
noncomputable def f_a228 : ev_H := (an972 : e2_Q8)
noncomputable def q_a228_0 : ev_H := (an972 : e2_Q8)
noncomputable def rs_a228 : e2_Rs := [((9, 0, 0), q_a228_0)]
noncomputable def s_a228 : e2_Sm := (103, as_a228, E_a228, f_a228, rs_a228)
noncomputable def S_a228 : List e2_Sm := [s_a11]
noncomputable def I_a228 : List e2_In := [(101, 2, e2x_101), (159, 2, e2x_159)]
set_option maxRecDepth 1000000 in
theorem co_a228 : e2_okSB E_a228.length as_a228 f_a228 rs_a228 = true := by decide +kernel
def al_a228_0 : List ev_V := [(2, 40, 0), (2, 1, 0), (1, 2, 4294967296)]
def E_a228_0 : e2_E := [(2147483648, 2147583648, 0, 0), (2147483652, 2147483668, 1, 0), (2147483648, 2147483668, 2, 0)]
noncomputable def h_a228_0 : ev_H := (an972 : e2_Q8)
noncomputable def cl_a228_e : List (Nat × e2_S) := [(86, e2_cutL (al_a228_0.set 2 (11, 2147483648, 2147483668)) 2 (E_a228_0.take 2) h_a228_0)]
set_option maxRecDepth 1000000 in
theorem ck_a228_e : e2_run (e2_cal S_a228 I_a228 4000 1) (e2_fin rs_a228) e2x_103 (e2_bpL cl_a228_e) (e2_cutA cl_a228_e) 4000 (e2_seek e2x_103 0) (e2_al 3 as_a228) [] E_a228 f_a228 = true := by decide +kernel
noncomputable def cl_a228_0 : List (Nat × e2_S) := [(86, e2_cutL (al_a228_0.set 2 (13, 10, 2147483668)) 2 (E_a228_0.take 2) h_a228_0)]
set_option maxRecDepth 1000000 in
theorem ck_a228_0 : e2_runM (e2_cal S_a228 I_a228 4000 1) (e2_fin rs_a228) e2x_103 (e2_bpL cl_a228_0) (e2_cutA cl_a228_0) 4000 (e2_seek e2x_103 86) al_a228_0 [] E_a228_0 h_a228_0 = true := by decide +kernel
set_option maxRecDepth 1000000 in
theorem ci_a228_0 : e2_idl 2 (al_a228_0.set 2 (9, 0, 0)) = true := by decide +kernel
set_option maxRecDepth 1000000 in
theorem cj_a228_0 : e2_idh 2 8 h_a228_0 = true := by decide +kernel
theorem cs_a228 (hen : en_ok) (l : Launch) : e2_smOk l 4 s_a228 := by
  refine e2_conG (H := 2) (n := 1) (C := evd_103) (S := S_a228) (I := I_a228) (fuel := 4000) hen ei_103 (e2_fa (cs_a11 hen l) e2_fz) (e2_fa ein_101 (e2_fa ein_159 e2_fz)) (by decide) co_a228 fun M d _ hC hcall p e R s m args below meth c Q D cA A ads r0 ha hl0 => ?_
  have L_0 : e2_gdM M p l e R s m args below meth c Q D cA A ads r0 86 al_a228_0 [] E_a228_0 h_a228_0 := by
    refine e2_indL (u := 2) (j := 2) (lo := 2147483648) (hi := 2147483668) (b := 2) (dd := 0) hl0 (by decide) rfl rfl (Or.inr ⟨rfl, rfl⟩) rfl ci_a228_0 cj_a228_0 ?_
    intro r_0 k_0 hk_0 hp_0 hs_0 hn_0
    have hl_0 : r_0.length ≤ 3 := hs_0.len rfl
    have ha_0 := ha.ext hp_0
    exact e2_fromM hen ha_0 hcall (e2_cutA_ok (e2_fa (fun al st E h hc => hn_0 al st E h hc) e2_fz)) (hC []) (X := e2x_103) ex2_103 86 ck_a228_0
  have EN_0 := e2_entL (u := 2) (j := 2) (lo := 2147483648) (hi := 2147483668) hl0 rfl rfl rfl ci_a228_0 cj_a228_0 L_0
  exact e2_from hen ha hcall (e2_cutA_ok (e2_fa (fun al st E h hc => EN_0 al st E h hc) e2_fz)) (hC []) (X := e2x_103) ex2_103 0 ck_a228_e
/-! a229 X7_putFour -/
def as_a229 : List ev_V := [(2, 34, 0), (11, 0, 4294967295)]
def E_a229 : e2_E := [(2147483648, 2147583648, 0, 0), (2147483652, 2147483668, 1, 0)]
noncomputable def f_a229 : ev_H := (an254 : e2_Q8)
noncomputable def q_a229_0 : ev_H := (an254 : e2_Q8)
noncomputable def rs_a229 : e2_Rs := [((9, 0, 0), q_a229_0)]
noncomputable def s_a229 : e2_Sm := (105, as_a229, E_a229, f_a229, rs_a229)
noncomputable def S_a229 : List e2_Sm := []
noncomputable def I_a229 : List e2_In := []
set_option maxRecDepth 1000000 in
theorem co_a229 : e2_okSB E_a229.length as_a229 f_a229 rs_a229 = true := by decide +kernel
def al_a229_0 : List ev_V := [(2, 34, 0), (11, 0, 4294967295), (1, 2, 4294967296)]
def E_a229_0 : e2_E := [(2147483648, 2147583648, 0, 0), (2147483652, 2147483668, 1, 0), (2147483640, 2147483672, 2, 0)]
noncomputable def h_a229_0 : ev_H := (an254 : e2_Q8)
noncomputable def cl_a229_e : List (Nat × e2_S) := [(3, e2_cutL (al_a229_0.set 2 (11, 2147483640, 2147483672)) 2 (E_a229_0.take 2) h_a229_0)]
set_option maxRecDepth 1000000 in
theorem ck_a229_e : e2_run (e2_cal S_a229 I_a229 4000 0) (e2_fin rs_a229) e2x_105 (e2_bpL cl_a229_e) (e2_cutA cl_a229_e) 4000 (e2_seek e2x_105 0) (e2_al 3 as_a229) [] E_a229 f_a229 = true := by decide +kernel
noncomputable def cl_a229_0 : List (Nat × e2_S) := [(3, e2_cutL (al_a229_0.set 2 (12, 10, 2147483640)) 2 (E_a229_0.take 2) h_a229_0)]
set_option maxRecDepth 1000000 in
theorem ck_a229_0 : e2_runM (e2_cal S_a229 I_a229 4000 0) (e2_fin rs_a229) e2x_105 (e2_bpL cl_a229_0) (e2_cutA cl_a229_0) 4000 (e2_seek e2x_105 3) al_a229_0 [] E_a229_0 h_a229_0 = true := by decide +kernel
set_option maxRecDepth 1000000 in
theorem ci_a229_0 : e2_idl 2 (al_a229_0.set 2 (9, 0, 0)) = true := by decide +kernel
set_option maxRecDepth 1000000 in
theorem cj_a229_0 : e2_idh 2 8 h_a229_0 = true := by decide +kernel
theorem cs_a229 (hen : en_ok) (l : Launch) : e2_smOk l 1 s_a229 := by
  refine e2_conG (H := 0) (n := 0) (C := evd_105) (S := S_a229) (I := I_a229) (fuel := 4000) hen ei_105 e2_fz e2_fz (by decide) co_a229 fun M d _ hC hcall p e R s m args below meth c Q D cA A ads r0 ha hl0 => ?_
  have L_0 : e2_gdM M p l e R s m args below meth c Q D cA A ads r0 3 al_a229_0 [] E_a229_0 h_a229_0 := by
    refine e2_indD (u := 2) (j := 2) (lo := 2147483640) (hi := 2147483672) hl0 (by decide) rfl rfl rfl ci_a229_0 cj_a229_0 ?_
    intro r_0 k_0 hk_0 hp_0 hs_0 hn_0
    have hl_0 : r_0.length ≤ 3 := hs_0.len rfl
    have ha_0 := ha.ext hp_0
    exact e2_fromM hen ha_0 hcall (e2_cutA_ok (e2_fa (fun al st E h hc => hn_0 al st E h hc) e2_fz)) (hC []) (X := e2x_105) ex2_105 3 ck_a229_0
  have EN_0 := e2_entL (u := 2) (j := 2) (lo := 2147483640) (hi := 2147483672) hl0 rfl rfl rfl ci_a229_0 cj_a229_0 L_0
  exact e2_from hen ha hcall (e2_cutA_ok (e2_fa (fun al st E h hc => EN_0 al st E h hc) e2_fz)) (hC []) (X := e2x_105) ex2_105 0 ck_a229_e
/-! a230 X7_begin -/
def as_a230 : List ev_V := [(2, 34, 0)]
def E_a230 : e2_E := [(2147483648, 2147583648, 0, 0), (2147483652, 2147483668, 1, 0)]
noncomputable def f_a230 : ev_H := (an254 : e2_Q8)
noncomputable def q_a230_0 : ev_H := (an254 : e2_Q8)
noncomputable def rs_a230 : e2_Rs := [((9, 0, 0), q_a230_0)]
noncomputable def s_a230 : e2_Sm := (107, as_a230, E_a230, f_a230, rs_a230)
noncomputable def S_a230 : List e2_Sm := [s_a37]
noncomputable def I_a230 : List e2_In := []
set_option maxRecDepth 1000000 in
theorem ck_a230 : e2_run (e2_cal S_a230 I_a230 4000 0) (e2_fin rs_a230) e2x_107 (fun _ => false) (fun _ _ _ _ _ => false) 4000 (e2_seek e2x_107 0) (e2_al 1 as_a230) [] E_a230 f_a230 = true := by decide +kernel
set_option maxRecDepth 1000000 in
theorem co_a230 : e2_okSB E_a230.length as_a230 f_a230 rs_a230 = true := by decide +kernel
theorem cs_a230 (hen : en_ok) (l : Launch) (hh : e2_hand_a l) : e2_smOk l 63 s_a230 := e2_con0 (H := 62) (n := 0) (C := evd_107) (S := S_a230) (I := I_a230) (fuel := 4000) [] hen ei_107 (e2_fa (cs_a37 hen l hh) e2_fz) e2_fz (by decide) co_a230 ex2_107 ck_a230
/-! a231 X8_clear -/
def as_a231 : List ev_V := [(2, 17, 0)]
def E_a231 : e2_E := [(2147483648, 2147583648, 0, 0), (2147483652, 2147483668, 1, 0)]
def an973 : e2_Q2 := (an259, an86)
def an974 : e2_Q3 := (an973, an90)
def an975 : e2_Q4 := (an84, an974)
def an976 : e2_Q5 := (an427, an975)
def an977 : e2_Q6 := (an976, an582)
def an978 : e2_Q7 := (an62, an977)
def an979 : e2_Q4 := (an133, an572)
def an980 : e2_Q2 := (an259, an150)
def an981 : e2_Q3 := (an980, an154)
def an982 : e2_Q4 := (an148, an981)
def an983 : e2_Q5 := (an979, an982)
def an984 : e2_Q6 := (an983, an188)
def an985 : e2_Q5 := (an431, an602)
def an986 : e2_Q6 := (an985, an251)
def an987 : e2_Q7 := (an984, an986)
def an988 : e2_Q8 := (an978, an987)
noncomputable def f_a231 : ev_H := (an988 : e2_Q8)
noncomputable def q_a231_0 : ev_H := (an988 : e2_Q8)
noncomputable def rs_a231 : e2_Rs := [((9, 0, 0), q_a231_0)]
noncomputable def s_a231 : e2_Sm := (117, as_a231, E_a231, f_a231, rs_a231)
noncomputable def S_a231 : List e2_Sm := []
noncomputable def I_a231 : List e2_In := [(16, 1, e2x_16)]
set_option maxRecDepth 1000000 in
theorem co_a231 : e2_okSB E_a231.length as_a231 f_a231 rs_a231 = true := by decide +kernel
def al_a231_0 : List ev_V := [(2, 17, 0), (1, 2, 4294967296)]
def E_a231_0 : e2_E := [(2147483648, 2147583648, 0, 0), (2147483652, 2147483668, 1, 0), (2147483648, 2147483656, 2, 0)]
noncomputable def h_a231_0 : ev_H := (an988 : e2_Q8)
noncomputable def cl_a231_e : List (Nat × e2_S) := [(52, e2_cutL (al_a231_0.set 1 (11, 2147483648, 2147483656)) 2 (E_a231_0.take 2) h_a231_0)]
set_option maxRecDepth 1000000 in
theorem ck_a231_e : e2_run (e2_cal S_a231 I_a231 4000 1) (e2_fin rs_a231) e2x_117 (e2_bpL cl_a231_e) (e2_cutA cl_a231_e) 4000 (e2_seek e2x_117 0) (e2_al 2 as_a231) [] E_a231 f_a231 = true := by decide +kernel
noncomputable def cl_a231_0 : List (Nat × e2_S) := [(52, e2_cutL (al_a231_0.set 1 (13, 10, 2147483656)) 2 (E_a231_0.take 2) h_a231_0)]
set_option maxRecDepth 1000000 in
theorem ck_a231_0 : e2_runM (e2_cal S_a231 I_a231 4000 1) (e2_fin rs_a231) e2x_117 (e2_bpL cl_a231_0) (e2_cutA cl_a231_0) 4000 (e2_seek e2x_117 52) al_a231_0 [] E_a231_0 h_a231_0 = true := by decide +kernel
set_option maxRecDepth 1000000 in
theorem ci_a231_0 : e2_idl 2 (al_a231_0.set 1 (9, 0, 0)) = true := by decide +kernel
set_option maxRecDepth 1000000 in
theorem cj_a231_0 : e2_idh 2 8 h_a231_0 = true := by decide +kernel
theorem cs_a231 (hen : en_ok) (l : Launch) : e2_smOk l 2 s_a231 := by
  refine e2_conG (H := 0) (n := 1) (C := evd_117) (S := S_a231) (I := I_a231) (fuel := 4000) hen ei_117 e2_fz (e2_fa ein_16 e2_fz) (by decide) co_a231 fun M d _ hC hcall p e R s m args below meth c Q D cA A ads r0 ha hl0 => ?_
  have L_0 : e2_gdM M p l e R s m args below meth c Q D cA A ads r0 52 al_a231_0 [] E_a231_0 h_a231_0 := by
    refine e2_indL (u := 2) (j := 1) (lo := 2147483648) (hi := 2147483656) (b := 2) (dd := 0) hl0 (by decide) rfl rfl (Or.inr ⟨rfl, rfl⟩) rfl ci_a231_0 cj_a231_0 ?_
    intro r_0 k_0 hk_0 hp_0 hs_0 hn_0
    have hl_0 : r_0.length ≤ 3 := hs_0.len rfl
    have ha_0 := ha.ext hp_0
    exact e2_fromM hen ha_0 hcall (e2_cutA_ok (e2_fa (fun al st E h hc => hn_0 al st E h hc) e2_fz)) (hC []) (X := e2x_117) ex2_117 52 ck_a231_0
  have EN_0 := e2_entL (u := 2) (j := 1) (lo := 2147483648) (hi := 2147483656) hl0 rfl rfl rfl ci_a231_0 cj_a231_0 L_0
  exact e2_from hen ha hcall (e2_cutA_ok (e2_fa (fun al st E h hc => EN_0 al st E h hc) e2_fz)) (hC []) (X := e2x_117) ex2_117 0 ck_a231_e
/-! a232 X9_feed -/
def as_a232 : List ev_V := [(2, 0, 0), (11, 0, 4294967295), (11, 0, 4294967295), (11, 0, 4294967295), (11, 0, 4294967295), (11, 0, 4294967295)]
def E_a232 : e2_E := [(2147483648, 2147583648, 0, 0), (2147483652, 2147483668, 1, 0)]
def ac189 : ev_C := (9, [(2, 1, 0), (2, 36, 0), (2, 47, 0), (2, 59, 0), (2, 44, 0), (2, 77, 0), (2, 40, 0), (2, 33, 0), (2, 17, 0)])
def an989 : e2_Q1 := (ac189, ac1)
def an990 : e2_Q2 := (an989, an1)
def an991 : e2_Q3 := (an990, an5)
def an992 : e2_Q4 := (an991, an13)
def an993 : e2_Q5 := (an992, an29)
def an994 : e2_Q6 := (an993, an61)
def an995 : e2_Q7 := (an994, an125)
def ac190 : ev_C := (3, [(2, 34, 0), (7, 0, 0), (11, 2147483648, 2147485248), (11, 2147483648, 2147483649), (11, 0, 4294967295), (11, 0, 4294967295), (11, 0, 4294967295), (11, 0, 4294967295)])
def an996 : e2_Q1 := (ac190, ac3)
def an997 : e2_Q2 := (an996, an131)
def an998 : e2_Q3 := (an129, an997)
def an999 : e2_Q4 := (an998, an140)
def an1000 : e2_Q5 := (an999, an156)
def an1001 : e2_Q6 := (an1000, an188)
def an1002 : e2_Q7 := (an1001, an252)
def an1003 : e2_Q8 := (an995, an1002)
noncomputable def f_a232 : ev_H := (an1003 : e2_Q8)
noncomputable def q_a232_0 : ev_H := (an1003 : e2_Q8)
noncomputable def rs_a232 : e2_Rs := [((11, 2147483647, 2147485248), q_a232_0)]
noncomputable def s_a232 : e2_Sm := (123, as_a232, E_a232, f_a232, rs_a232)
noncomputable def S_a232 : List e2_Sm := [s_a229]
noncomputable def I_a232 : List e2_In := [(104, 2, e2x_104)]
set_option maxRecDepth 1000000 in
theorem ck_a232 : e2_run (e2_cal S_a232 I_a232 4000 1) (e2_fin rs_a232) e2x_123 (fun _ => false) (fun _ _ _ _ _ => false) 4000 (e2_seek e2x_123 0) (e2_al 7 as_a232) [] E_a232 f_a232 = true := by decide +kernel
set_option maxRecDepth 1000000 in
theorem co_a232 : e2_okSB E_a232.length as_a232 f_a232 rs_a232 = true := by decide +kernel
theorem cs_a232 (hen : en_ok) (l : Launch) : e2_smOk l 3 s_a232 := e2_con0 (H := 1) (n := 1) (C := evd_123) (S := S_a232) (I := I_a232) (fuel := 4000) [] hen ei_123 (e2_fa (cs_a229 hen l) e2_fz) (e2_fa ein_104 e2_fz) (by decide) co_a232 ex2_123 ck_a232
/-! a233 X9_readAll -/
def as_a233 : List ev_V := [(2, 0, 0), (2, 36, 0)]
def E_a233 : e2_E := [(2147483648, 2147583648, 0, 0), (2147483652, 2147483668, 1, 0)]
def an1004 : e2_Q4 := (an991, an257)
def an1005 : e2_Q5 := (an1004, an262)
def an1006 : e2_Q6 := (an1005, an890)
def an1007 : e2_Q5 := (an892, an285)
def an1008 : e2_Q6 := (an1007, an295)
def an1009 : e2_Q7 := (an1006, an1008)
def an1010 : e2_Q5 := (an880, an307)
def an1011 : e2_Q6 := (an1010, an898)
def an1012 : e2_Q4 := (an640, an328)
def an1013 : e2_Q5 := (an1012, an903)
def an1014 : e2_Q6 := (an884, an1013)
def an1015 : e2_Q7 := (an1011, an1014)
def an1016 : e2_Q8 := (an1009, an1015)
noncomputable def f_a233 : ev_H := (an1016 : e2_Q8)
def an1017 : e2_Q7 := (an1006, an296)
def an1018 : e2_Q4 := (an896, an340)
def an1019 : e2_Q5 := (an1018, an451)
def an1020 : e2_Q6 := (an1010, an1019)
def an1021 : e2_Q5 := (an347, an457)
def an1022 : e2_Q5 := (an1012, an352)
def an1023 : e2_Q6 := (an1021, an1022)
def an1024 : e2_Q7 := (an1020, an1023)
def an1025 : e2_Q8 := (an1017, an1024)
noncomputable def q_a233_0 : ev_H := (an1025 : e2_Q8)
noncomputable def rs_a233 : e2_Rs := [((11, 0, 4294967295), q_a233_0)]
noncomputable def s_a233 : e2_Sm := (166, as_a233, E_a233, f_a233, rs_a233)
noncomputable def S_a233 : List e2_Sm := [s_a3, s_a221]
noncomputable def I_a233 : List e2_In := []
set_option maxRecDepth 1000000 in
theorem ck_a233 : e2_run (e2_cal S_a233 I_a233 4000 0) (e2_fin rs_a233) e2x_166 (fun _ => false) (fun _ _ _ _ _ => false) 4000 (e2_seek e2x_166 0) (e2_al 3 as_a233) [] E_a233 f_a233 = true := by decide +kernel
set_option maxRecDepth 1000000 in
theorem co_a233 : e2_okSB E_a233.length as_a233 f_a233 rs_a233 = true := by decide +kernel
theorem cs_a233 (hen : en_ok) (l : Launch) (hh : e2_hand_a l) : e2_smOk l 61 s_a233 := e2_con0 (H := 60) (n := 0) (C := evd_166) (S := S_a233) (I := I_a233) (fuel := 4000) [] hen ei_166 (e2_fa (hh _ hm_a3) (e2_fa ((cs_a221 hen l).mono (by decide)) e2_fz)) e2_fz (by decide) co_a233 ex2_166 ck_a233
/-! a234 X9_takeNow -/
def as_a234 : List ev_V := [(2, 0, 0)]
def E_a234 : e2_E := [(2147483648, 2147583648, 0, 0), (2147483652, 2147483668, 1, 0)]
noncomputable def f_a234 : ev_H := (an1016 : e2_Q8)
noncomputable def q_a234_0 : ev_H := (an1025 : e2_Q8)
noncomputable def rs_a234 : e2_Rs := [((11, 2147483648, 2147483649), q_a234_0)]
noncomputable def s_a234 : e2_Sm := (167, as_a234, E_a234, f_a234, rs_a234)
noncomputable def S_a234 : List e2_Sm := [s_a4, s_a233]
noncomputable def I_a234 : List e2_In := []
set_option maxRecDepth 1000000 in
theorem ck_a234 : e2_run (e2_cal S_a234 I_a234 4000 0) (e2_fin rs_a234) e2x_167 (fun _ => false) (fun _ _ _ _ _ => false) 4000 (e2_seek e2x_167 0) (e2_al 1 as_a234) [] E_a234 f_a234 = true := by decide +kernel
set_option maxRecDepth 1000000 in
theorem co_a234 : e2_okSB E_a234.length as_a234 f_a234 rs_a234 = true := by decide +kernel
theorem cs_a234 (hen : en_ok) (l : Launch) (hh : e2_hand_a l) : e2_smOk l 62 s_a234 := e2_con0 (H := 61) (n := 0) (C := evd_167) (S := S_a234) (I := I_a234) (fuel := 4000) [] hen ei_167 (e2_fa ((hh _ hm_a4).mono (by decide)) (e2_fa (cs_a233 hen l hh) e2_fz)) e2_fz (by decide) co_a234 ex2_167 ck_a234
/-! a235 X9_glyph -/
def as_a235 : List ev_V := [(2, 0, 0), (11, 0, 4294967295), (11, 0, 4294967295)]
def E_a235 : e2_E := [(2147483648, 2147583648, 0, 0), (2147483652, 2147483668, 1, 0)]
def an1026 : e2_Q4 := (an671, an261)
def an1027 : e2_Q5 := (an1004, an1026)
def an1028 : e2_Q6 := (an1027, an890)
def an1029 : e2_Q7 := (an1028, an1008)
def an1030 : e2_Q8 := (an1029, an1015)
noncomputable def f_a235 : ev_H := (an1030 : e2_Q8)
noncomputable def q_a235_0 : ev_H := (an1030 : e2_Q8)
noncomputable def rs_a235 : e2_Rs := [((11, 0, 4294967295), q_a235_0)]
noncomputable def s_a235 : e2_Sm := (128, as_a235, E_a235, f_a235, rs_a235)
noncomputable def S_a235 : List e2_Sm := [s_a225, s_a234]
noncomputable def I_a235 : List e2_In := [(162, 2, e2x_162)]
set_option maxRecDepth 1000000 in
theorem ck_a235 : e2_run (e2_cal S_a235 I_a235 4000 1) (e2_fin rs_a235) e2x_128 (fun _ => false) (fun _ _ _ _ _ => false) 4000 (e2_seek e2x_128 0) (e2_al 3 as_a235) [] E_a235 f_a235 = true := by decide +kernel
set_option maxRecDepth 1000000 in
theorem co_a235 : e2_okSB E_a235.length as_a235 f_a235 rs_a235 = true := by decide +kernel
theorem cs_a235 (hen : en_ok) (l : Launch) (hh : e2_hand_a l) : e2_smOk l 64 s_a235 := e2_con0 (H := 62) (n := 1) (C := evd_128) (S := S_a235) (I := I_a235) (fuel := 4000) [] hen ei_128 (e2_fa ((cs_a225 hen l).mono (by decide)) (e2_fa (cs_a234 hen l hh) e2_fz)) (e2_fa ein_162 e2_fz) (by decide) co_a235 ex2_128 ck_a235
/-! a236 X9_plot -/
def as_a236 : List ev_V := [(2, 0, 0), (11, 0, 4294967295), (11, 0, 4294967295)]
def E_a236 : e2_E := [(2147483648, 2147583648, 0, 0), (2147483652, 2147483668, 1, 0)]
def an1031 : e2_Q3 := (an288, an955)
def an1032 : e2_Q4 := (an1031, an293)
def an1033 : e2_Q5 := (an1032, an123)
def an1034 : e2_Q6 := (an1007, an1033)
def an1035 : e2_Q7 := (an1006, an1034)
def an1036 : e2_Q8 := (an1035, an1015)
noncomputable def f_a236 : ev_H := (an1036 : e2_Q8)
noncomputable def q_a236_0 : ev_H := (an1036 : e2_Q8)
noncomputable def rs_a236 : e2_Rs := [((11, 0, 4294967295), q_a236_0)]
noncomputable def s_a236 : e2_Sm := (129, as_a236, E_a236, f_a236, rs_a236)
noncomputable def S_a236 : List e2_Sm := [s_a226, s_a234]
noncomputable def I_a236 : List e2_In := [(159, 2, e2x_159), (163, 2, e2x_163)]
set_option maxRecDepth 1000000 in
theorem ck_a236 : e2_run (e2_cal S_a236 I_a236 4000 1) (e2_fin rs_a236) e2x_129 (fun _ => false) (fun _ _ _ _ _ => false) 4000 (e2_seek e2x_129 0) (e2_al 4 as_a236) [] E_a236 f_a236 = true := by decide +kernel
set_option maxRecDepth 1000000 in
theorem co_a236 : e2_okSB E_a236.length as_a236 f_a236 rs_a236 = true := by decide +kernel
theorem cs_a236 (hen : en_ok) (l : Launch) (hh : e2_hand_a l) : e2_smOk l 64 s_a236 := e2_con0 (H := 62) (n := 1) (C := evd_129) (S := S_a236) (I := I_a236) (fuel := 4000) [] hen ei_129 (e2_fa ((cs_a226 hen l).mono (by decide)) (e2_fa (cs_a234 hen l hh) e2_fz)) (e2_fa ein_159 (e2_fa ein_163 e2_fz)) (by decide) co_a236 ex2_129 ck_a236
/-! a237 X9_passYear -/
def as_a237 : List ev_V := [(2, 0, 0), (2, 36, 0)]
def E_a237 : e2_E := [(2147483648, 2147583648, 0, 0), (2147483652, 2147483668, 1, 0)]
def an1037 : e2_Q3 := (an462, an256)
def an1038 : e2_Q4 := (an991, an1037)
def an1039 : e2_Q5 := (an1038, an1026)
def an1040 : e2_Q6 := (an1039, an890)
def an1041 : e2_Q5 := (an1032, an470)
def an1042 : e2_Q6 := (an1007, an1041)
def an1043 : e2_Q7 := (an1040, an1042)
def an1044 : e2_Q3 := (an639, an474)
def an1045 : e2_Q4 := (an1044, an328)
def an1046 : e2_Q3 := (an477, an901)
def an1047 : e2_Q4 := (an1046, an249)
def an1048 : e2_Q5 := (an1045, an1047)
def an1049 : e2_Q6 := (an884, an1048)
def an1050 : e2_Q7 := (an1011, an1049)
def an1051 : e2_Q8 := (an1043, an1050)
noncomputable def f_a237 : ev_H := (an1051 : e2_Q8)
def an1052 : e2_Q6 := (an286, an1041)
def an1053 : e2_Q7 := (an1040, an1052)
def an1054 : e2_Q3 := (an477, an350)
def an1055 : e2_Q4 := (an1054, an249)
def an1056 : e2_Q5 := (an1045, an1055)
def an1057 : e2_Q6 := (an1021, an1056)
def an1058 : e2_Q7 := (an1020, an1057)
def an1059 : e2_Q8 := (an1053, an1058)
noncomputable def q_a237_0 : ev_H := (an1059 : e2_Q8)
noncomputable def rs_a237 : e2_Rs := [((11, 2147483647, 2147483668), q_a237_0)]
noncomputable def s_a237 : e2_Sm := (168, as_a237, E_a237, f_a237, rs_a237)
noncomputable def S_a237 : List e2_Sm := [s_a4, s_a227, s_a233]
noncomputable def I_a237 : List e2_In := [(102, 3, e2x_102), (160, 2, e2x_160)]
set_option maxRecDepth 1000000 in
theorem co_a237 : e2_okSB E_a237.length as_a237 f_a237 rs_a237 = true := by decide +kernel
def al_a237_0 : List ev_V := [(2, 0, 0), (2, 36, 0), (11, 2147483648, 2147483668), (1, 2, 4294967296), (9, 0, 0)]
def E_a237_0 : e2_E := [(2147483648, 2147583648, 0, 0), (2147483652, 2147483668, 1, 0), (2147483648, 2147483668, 2, 0)]
noncomputable def h_a237_0 : ev_H := (an1059 : e2_Q8)
noncomputable def cl_a237_e : List (Nat × e2_S) := [(30, e2_cutL (al_a237_0.set 3 (11, 2147483648, 2147483668)) 2 (E_a237_0.take 2) h_a237_0)]
set_option maxRecDepth 1000000 in
theorem ck_a237_e : e2_run (e2_cal S_a237 I_a237 4000 2) (e2_fin rs_a237) e2x_168 (e2_bpL cl_a237_e) (e2_cutA cl_a237_e) 4000 (e2_seek e2x_168 0) (e2_al 5 as_a237) [] E_a237 f_a237 = true := by decide +kernel
noncomputable def cl_a237_0 : List (Nat × e2_S) := [(30, e2_cutL (al_a237_0.set 3 (13, 10, 2147483668)) 2 (E_a237_0.take 2) h_a237_0)]
set_option maxRecDepth 1000000 in
theorem ck_a237_0 : e2_runM (e2_cal S_a237 I_a237 4000 2) (e2_fin rs_a237) e2x_168 (e2_bpL cl_a237_0) (e2_cutA cl_a237_0) 4000 (e2_seek e2x_168 30) al_a237_0 [] E_a237_0 h_a237_0 = true := by decide +kernel
set_option maxRecDepth 1000000 in
theorem ci_a237_0 : e2_idl 2 (al_a237_0.set 3 (9, 0, 0)) = true := by decide +kernel
set_option maxRecDepth 1000000 in
theorem cj_a237_0 : e2_idh 2 8 h_a237_0 = true := by decide +kernel
theorem cs_a237 (hen : en_ok) (l : Launch) (hh : e2_hand_a l) : e2_smOk l 64 s_a237 := by
  refine e2_conG (H := 61) (n := 2) (C := evd_168) (S := S_a237) (I := I_a237) (fuel := 4000) hen ei_168 (e2_fa ((hh _ hm_a4).mono (by decide)) (e2_fa ((cs_a227 hen l).mono (by decide)) (e2_fa (cs_a233 hen l hh) e2_fz))) (e2_fa ein_102 (e2_fa ein_160 e2_fz)) (by decide) co_a237 fun M d _ hC hcall p e R s m args below meth c Q D cA A ads r0 ha hl0 => ?_
  have L_0 : e2_gdM M p l e R s m args below meth c Q D cA A ads r0 30 al_a237_0 [] E_a237_0 h_a237_0 := by
    refine e2_indL (u := 2) (j := 3) (lo := 2147483648) (hi := 2147483668) (b := 2) (dd := 0) hl0 (by decide) rfl rfl (Or.inr ⟨rfl, rfl⟩) rfl ci_a237_0 cj_a237_0 ?_
    intro r_0 k_0 hk_0 hp_0 hs_0 hn_0
    have hl_0 : r_0.length ≤ 3 := hs_0.len rfl
    have ha_0 := ha.ext hp_0
    exact e2_fromM hen ha_0 hcall (e2_cutA_ok (e2_fa (fun al st E h hc => hn_0 al st E h hc) e2_fz)) (hC []) (X := e2x_168) ex2_168 30 ck_a237_0
  have EN_0 := e2_entL (u := 2) (j := 3) (lo := 2147483648) (hi := 2147483668) hl0 rfl rfl rfl ci_a237_0 cj_a237_0 L_0
  exact e2_from hen ha hcall (e2_cutA_ok (e2_fa (fun al st E h hc => EN_0 al st E h hc) e2_fz)) (hC []) (X := e2x_168) ex2_168 0 ck_a237_e
/-! a238 X9_year -/
def as_a238 : List ev_V := [(2, 0, 0)]
def E_a238 : e2_E := [(2147483648, 2147583648, 0, 0), (2147483652, 2147483668, 1, 0)]
def ac191 : ev_C := (2, [(11, 0, 4294967295), (2, 45, 0), (11, 0, 4294967295), (11, 0, 4294967295), (2, 46, 0), (11, 0, 4294967295)])
def an1060 : e2_Q1 := (ac191, ac3)
def an1061 : e2_Q2 := (an1060, an50)
def an1062 : e2_Q3 := (an437, an1061)
def an1063 : e2_Q4 := (an1062, an59)
def an1064 : e2_Q5 := (an889, an1063)
def an1065 : e2_Q6 := (an1039, an1064)
def an1066 : e2_Q7 := (an1065, an1042)
def ac192 : ev_C := (54, [(0, 1107, 0), (11, 0, 4294967295)])
def an1067 : e2_Q1 := (ac192, ac3)
def an1068 : e2_Q2 := (an1067, an177)
def an1069 : e2_Q3 := (an449, an1068)
def an1070 : e2_Q4 := (an1069, an186)
def an1071 : e2_Q5 := (an897, an1070)
def an1072 : e2_Q6 := (an1010, an1071)
def an1073 : e2_Q7 := (an1072, an1049)
def an1074 : e2_Q8 := (an1066, an1073)
noncomputable def f_a238 : ev_H := (an1074 : e2_Q8)
noncomputable def q_a238_0 : ev_H := (an1074 : e2_Q8)
noncomputable def rs_a238 : e2_Rs := [((11, 2147483646, 2147483668), q_a238_0)]
noncomputable def s_a238 : e2_Sm := (132, as_a238, E_a238, f_a238, rs_a238)
noncomputable def S_a238 : List e2_Sm := [s_a237]
noncomputable def I_a238 : List e2_In := [(9, 4, e2x_9), (35, 2, e2x_35), (36, 1, e2x_36)]
set_option maxRecDepth 1000000 in
theorem ck_a238 : e2_run (e2_cal S_a238 I_a238 4000 2) (e2_fin rs_a238) e2x_132 (fun _ => false) (fun _ _ _ _ _ => false) 4000 (e2_seek e2x_132 0) (e2_al 2 as_a238) [] E_a238 f_a238 = true := by decide +kernel
set_option maxRecDepth 1000000 in
theorem co_a238 : e2_okSB E_a238.length as_a238 f_a238 rs_a238 = true := by decide +kernel
theorem cs_a238 (hen : en_ok) (l : Launch) (hh : e2_hand_a l) : e2_smOk l 67 s_a238 := e2_con0 (H := 64) (n := 2) (C := evd_132) (S := S_a238) (I := I_a238) (fuel := 4000) [] hen ei_132 (e2_fa (cs_a237 hen l hh) e2_fz) (e2_fa ein_9 (e2_fa ein_35 (e2_fa ein_36 e2_fz))) (by decide) co_a238 ex2_132 ck_a238
