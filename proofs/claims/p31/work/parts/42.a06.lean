/-! CONTRACTS a, printed by a program -/
/-! a214 X5_gainOf -/
def as_a214 : List ev_V := [(2, 47, 0), (11, 2147483648, 2147483651)]
def E_a214 : e2_E := [(2147483648, 2147583648, 0, 0)]
def an908 : e2_Q6 := (an627, an61)
def an909 : e2_Q5 := (an341, an273)
def an910 : e2_Q6 := (an909, an124)
def an911 : e2_Q7 := (an908, an910)
def an912 : e2_Q6 := (an346, an847)
def an913 : e2_Q7 := (an719, an912)
def an914 : e2_Q8 := (an911, an913)
noncomputable def f_a214 : ev_H := (an914 : e2_Q8)
noncomputable def q_a214_0 : ev_H := (an914 : e2_Q8)
noncomputable def rs_a214 : e2_Rs := [((11, 0, 4294967295), q_a214_0)]
noncomputable def s_a214 : e2_Sm := (95, as_a214, E_a214, f_a214, rs_a214)
noncomputable def S_a214 : List e2_Sm := []
noncomputable def I_a214 : List e2_In := []
set_option maxRecDepth 1000000 in
theorem co_a214 : e2_okSB E_a214.length as_a214 f_a214 rs_a214 = true := by decide +kernel
def al_a214_0 : List ev_V := [(2, 47, 0), (11, 2147483648, 2147483651), (11, 0, 4294967295), (1, 1, 4294967296)]
def E_a214_0 : e2_E := [(2147483648, 2147583648, 0, 0), (2147483648, 2147483668, 1, 0)]
noncomputable def h_a214_0 : ev_H := (an914 : e2_Q8)
noncomputable def cl_a214_e : List (Nat × e2_S) := [(4, e2_cutL (al_a214_0.set 3 (11, 2147483648, 2147483668)) 1 (E_a214_0.take 1) h_a214_0)]
set_option maxRecDepth 1000000 in
theorem ck_a214_e : e2_run (e2_cal S_a214 I_a214 4000 0) (e2_fin rs_a214) e2x_95 (e2_bpL cl_a214_e) (e2_cutA cl_a214_e) 4000 (e2_seek e2x_95 0) (e2_al 4 as_a214) [] E_a214 f_a214 = true := by decide +kernel
noncomputable def cl_a214_0 : List (Nat × e2_S) := [(4, e2_cutL (al_a214_0.set 3 (13, 9, 2147483668)) 1 (E_a214_0.take 1) h_a214_0)]
set_option maxRecDepth 1000000 in
theorem ck_a214_0 : e2_runM (e2_cal S_a214 I_a214 4000 0) (e2_fin rs_a214) e2x_95 (e2_bpL cl_a214_0) (e2_cutA cl_a214_0) 4000 (e2_seek e2x_95 4) al_a214_0 [] E_a214_0 h_a214_0 = true := by decide +kernel
set_option maxRecDepth 1000000 in
theorem ci_a214_0 : e2_idl 1 (al_a214_0.set 3 (9, 0, 0)) = true := by decide +kernel
set_option maxRecDepth 1000000 in
theorem cj_a214_0 : e2_idh 1 8 h_a214_0 = true := by decide +kernel
theorem cs_a214 (hen : en_ok) (l : Launch) : e2_smOk l 1 s_a214 := by
  refine e2_conG (H := 0) (n := 0) (C := evd_95) (S := S_a214) (I := I_a214) (fuel := 4000) hen ei_95 e2_fz e2_fz (by decide) co_a214 fun M d _ hC hcall p e R s m args below meth c Q D cA A ads r0 ha hl0 => ?_
  have L_0 : e2_gdM M p l e R s m args below meth c Q D cA A ads r0 4 al_a214_0 [] E_a214_0 h_a214_0 := by
    refine e2_indL (u := 1) (j := 3) (lo := 2147483648) (hi := 2147483668) (b := 1) (dd := 0) hl0 (by decide) rfl rfl (Or.inr ⟨rfl, rfl⟩) rfl ci_a214_0 cj_a214_0 ?_
    intro r_0 k_0 hk_0 hp_0 hs_0 hn_0
    have hl_0 : r_0.length ≤ 2 := hs_0.len rfl
    have ha_0 := ha.ext hp_0
    exact e2_fromM hen ha_0 hcall (e2_cutA_ok (e2_fa (fun al st E h hc => hn_0 al st E h hc) e2_fz)) (hC []) (X := e2x_95) ex2_95 4 ck_a214_0
  have EN_0 := e2_entL (u := 1) (j := 3) (lo := 2147483648) (hi := 2147483668) hl0 rfl rfl rfl ci_a214_0 cj_a214_0 L_0
  exact e2_from hen ha hcall (e2_cutA_ok (e2_fa (fun al st E h hc => EN_0 al st E h hc) e2_fz)) (hC []) (X := e2x_95) ex2_95 0 ck_a214_e
/-! a215 X5_takesAway -/
def as_a215 : List ev_V := [(2, 47, 0)]
def E_a215 : e2_E := [(2147483648, 2147583648, 0, 0)]
def an915 : e2_Q6 := (an346, an821)
def an916 : e2_Q7 := (an719, an915)
def an917 : e2_Q8 := (an911, an916)
noncomputable def f_a215 : ev_H := (an917 : e2_Q8)
noncomputable def q_a215_0 : ev_H := (an917 : e2_Q8)
noncomputable def rs_a215 : e2_Rs := [((11, 2147483648, 2147483649), q_a215_0)]
noncomputable def s_a215 : e2_Sm := (96, as_a215, E_a215, f_a215, rs_a215)
noncomputable def S_a215 : List e2_Sm := []
noncomputable def I_a215 : List e2_In := []
set_option maxRecDepth 1000000 in
theorem co_a215 : e2_okSB E_a215.length as_a215 f_a215 rs_a215 = true := by decide +kernel
def al_a215_0 : List ev_V := [(2, 47, 0), (1, 1, 4294967296)]
def E_a215_0 : e2_E := [(2147483648, 2147583648, 0, 0), (2147483648, 2147483668, 1, 0)]
noncomputable def h_a215_0 : ev_H := (an917 : e2_Q8)
noncomputable def cl_a215_e : List (Nat × e2_S) := [(2, e2_cutL (al_a215_0.set 1 (11, 2147483648, 2147483668)) 1 (E_a215_0.take 1) h_a215_0)]
set_option maxRecDepth 1000000 in
theorem ck_a215_e : e2_run (e2_cal S_a215 I_a215 4000 0) (e2_fin rs_a215) e2x_96 (e2_bpL cl_a215_e) (e2_cutA cl_a215_e) 4000 (e2_seek e2x_96 0) (e2_al 2 as_a215) [] E_a215 f_a215 = true := by decide +kernel
noncomputable def cl_a215_0 : List (Nat × e2_S) := [(2, e2_cutL (al_a215_0.set 1 (13, 9, 2147483668)) 1 (E_a215_0.take 1) h_a215_0)]
set_option maxRecDepth 1000000 in
theorem ck_a215_0 : e2_runM (e2_cal S_a215 I_a215 4000 0) (e2_fin rs_a215) e2x_96 (e2_bpL cl_a215_0) (e2_cutA cl_a215_0) 4000 (e2_seek e2x_96 2) al_a215_0 [] E_a215_0 h_a215_0 = true := by decide +kernel
set_option maxRecDepth 1000000 in
theorem ci_a215_0 : e2_idl 1 (al_a215_0.set 1 (9, 0, 0)) = true := by decide +kernel
set_option maxRecDepth 1000000 in
theorem cj_a215_0 : e2_idh 1 8 h_a215_0 = true := by decide +kernel
theorem cs_a215 (hen : en_ok) (l : Launch) : e2_smOk l 1 s_a215 := by
  refine e2_conG (H := 0) (n := 0) (C := evd_96) (S := S_a215) (I := I_a215) (fuel := 4000) hen ei_96 e2_fz e2_fz (by decide) co_a215 fun M d _ hC hcall p e R s m args below meth c Q D cA A ads r0 ha hl0 => ?_
  have L_0 : e2_gdM M p l e R s m args below meth c Q D cA A ads r0 2 al_a215_0 [] E_a215_0 h_a215_0 := by
    refine e2_indL (u := 1) (j := 1) (lo := 2147483648) (hi := 2147483668) (b := 1) (dd := 0) hl0 (by decide) rfl rfl (Or.inr ⟨rfl, rfl⟩) rfl ci_a215_0 cj_a215_0 ?_
    intro r_0 k_0 hk_0 hp_0 hs_0 hn_0
    have hl_0 : r_0.length ≤ 2 := hs_0.len rfl
    have ha_0 := ha.ext hp_0
    exact e2_fromM hen ha_0 hcall (e2_cutA_ok (e2_fa (fun al st E h hc => hn_0 al st E h hc) e2_fz)) (hC []) (X := e2x_96) ex2_96 2 ck_a215_0
  have EN_0 := e2_entL (u := 1) (j := 1) (lo := 2147483648) (hi := 2147483668) hl0 rfl rfl rfl ci_a215_0 cj_a215_0 L_0
  exact e2_from hen ha hcall (e2_cutA_ok (e2_fa (fun al st E h hc => EN_0 al st E h hc) e2_fz)) (hC []) (X := e2x_96) ex2_96 0 ck_a215_e
/-! a216 X5_cellsOf -/
def as_a216 : List ev_V := [(2, 47, 0), (11, 2147483648, 2147483655)]
def E_a216 : e2_E := [(2147483648, 2147583648, 0, 0)]
def an918 : e2_Q7 := (an62, an910)
def an919 : e2_Q5 := (an141, an295)
def an920 : e2_Q6 := (an919, an188)
def an921 : e2_Q7 := (an920, an915)
def an922 : e2_Q8 := (an918, an921)
noncomputable def f_a216 : ev_H := (an922 : e2_Q8)
noncomputable def q_a216_0 : ev_H := (an922 : e2_Q8)
noncomputable def rs_a216 : e2_Rs := [((11, 0, 4294967295), q_a216_0)]
noncomputable def s_a216 : e2_Sm := (97, as_a216, E_a216, f_a216, rs_a216)
noncomputable def S_a216 : List e2_Sm := []
noncomputable def I_a216 : List e2_In := []
set_option maxRecDepth 1000000 in
theorem co_a216 : e2_okSB E_a216.length as_a216 f_a216 rs_a216 = true := by decide +kernel
def al_a216_0 : List ev_V := [(2, 47, 0), (11, 2147483648, 2147483655), (11, 0, 4294967295), (1, 1, 4294967296)]
def E_a216_0 : e2_E := [(2147483648, 2147583648, 0, 0), (2147483648, 2147483668, 1, 0)]
noncomputable def h_a216_0 : ev_H := (an922 : e2_Q8)
noncomputable def cl_a216_e : List (Nat × e2_S) := [(4, e2_cutL (al_a216_0.set 3 (11, 2147483648, 2147483668)) 1 (E_a216_0.take 1) h_a216_0)]
set_option maxRecDepth 1000000 in
theorem ck_a216_e : e2_run (e2_cal S_a216 I_a216 4000 0) (e2_fin rs_a216) e2x_97 (e2_bpL cl_a216_e) (e2_cutA cl_a216_e) 4000 (e2_seek e2x_97 0) (e2_al 4 as_a216) [] E_a216 f_a216 = true := by decide +kernel
noncomputable def cl_a216_0 : List (Nat × e2_S) := [(4, e2_cutL (al_a216_0.set 3 (13, 9, 2147483668)) 1 (E_a216_0.take 1) h_a216_0)]
set_option maxRecDepth 1000000 in
theorem ck_a216_0 : e2_runM (e2_cal S_a216 I_a216 4000 0) (e2_fin rs_a216) e2x_97 (e2_bpL cl_a216_0) (e2_cutA cl_a216_0) 4000 (e2_seek e2x_97 4) al_a216_0 [] E_a216_0 h_a216_0 = true := by decide +kernel
set_option maxRecDepth 1000000 in
theorem ci_a216_0 : e2_idl 1 (al_a216_0.set 3 (9, 0, 0)) = true := by decide +kernel
set_option maxRecDepth 1000000 in
theorem cj_a216_0 : e2_idh 1 8 h_a216_0 = true := by decide +kernel
theorem cs_a216 (hen : en_ok) (l : Launch) : e2_smOk l 1 s_a216 := by
  refine e2_conG (H := 0) (n := 0) (C := evd_97) (S := S_a216) (I := I_a216) (fuel := 4000) hen ei_97 e2_fz e2_fz (by decide) co_a216 fun M d _ hC hcall p e R s m args below meth c Q D cA A ads r0 ha hl0 => ?_
  have L_0 : e2_gdM M p l e R s m args below meth c Q D cA A ads r0 4 al_a216_0 [] E_a216_0 h_a216_0 := by
    refine e2_indL (u := 1) (j := 3) (lo := 2147483648) (hi := 2147483668) (b := 1) (dd := 0) hl0 (by decide) rfl rfl (Or.inr ⟨rfl, rfl⟩) rfl ci_a216_0 cj_a216_0 ?_
    intro r_0 k_0 hk_0 hp_0 hs_0 hn_0
    have hl_0 : r_0.length ≤ 2 := hs_0.len rfl
    have ha_0 := ha.ext hp_0
    exact e2_fromM hen ha_0 hcall (e2_cutA_ok (e2_fa (fun al st E h hc => hn_0 al st E h hc) e2_fz)) (hC []) (X := e2x_97) ex2_97 4 ck_a216_0
  have EN_0 := e2_entL (u := 1) (j := 3) (lo := 2147483648) (hi := 2147483668) hl0 rfl rfl rfl ci_a216_0 cj_a216_0 L_0
  exact e2_from hen ha hcall (e2_cutA_ok (e2_fa (fun al st E h hc => EN_0 al st E h hc) e2_fz)) (hC []) (X := e2x_97) ex2_97 0 ck_a216_e
/-! a217 X5_signAt -/
def as_a217 : List ev_V := [(2, 47, 0), (11, 2147483648, 2147483667)]
def E_a217 : e2_E := [(2147483648, 2147583648, 0, 0)]
noncomputable def f_a217 : ev_H := (an922 : e2_Q8)
noncomputable def q_a217_0 : ev_H := (an922 : e2_Q8)
noncomputable def rs_a217 : e2_Rs := [((11, 2147483647, 2147483655), q_a217_0)]
noncomputable def s_a217 : e2_Sm := (98, as_a217, E_a217, f_a217, rs_a217)
noncomputable def S_a217 : List e2_Sm := []
noncomputable def I_a217 : List e2_In := []
set_option maxRecDepth 1000000 in
theorem co_a217 : e2_okSB E_a217.length as_a217 f_a217 rs_a217 = true := by decide +kernel
def al_a217_0 : List ev_V := [(2, 47, 0), (11, 2147483648, 2147483667), (1, 1, 4294967296)]
def E_a217_0 : e2_E := [(2147483648, 2147583648, 0, 0), (2147483648, 2147483668, 1, 0)]
noncomputable def h_a217_0 : ev_H := (an922 : e2_Q8)
noncomputable def cl_a217_e : List (Nat × e2_S) := [(2, e2_cutL (al_a217_0.set 2 (11, 2147483648, 2147483668)) 1 (E_a217_0.take 1) h_a217_0)]
set_option maxRecDepth 1000000 in
theorem ck_a217_e : e2_run (e2_cal S_a217 I_a217 4000 0) (e2_fin rs_a217) e2x_98 (e2_bpL cl_a217_e) (e2_cutA cl_a217_e) 4000 (e2_seek e2x_98 0) (e2_al 3 as_a217) [] E_a217 f_a217 = true := by decide +kernel
noncomputable def cl_a217_0 : List (Nat × e2_S) := [(2, e2_cutL (al_a217_0.set 2 (13, 9, 2147483668)) 1 (E_a217_0.take 1) h_a217_0)]
set_option maxRecDepth 1000000 in
theorem ck_a217_0 : e2_runM (e2_cal S_a217 I_a217 4000 0) (e2_fin rs_a217) e2x_98 (e2_bpL cl_a217_0) (e2_cutA cl_a217_0) 4000 (e2_seek e2x_98 2) al_a217_0 [] E_a217_0 h_a217_0 = true := by decide +kernel
set_option maxRecDepth 1000000 in
theorem ci_a217_0 : e2_idl 1 (al_a217_0.set 2 (9, 0, 0)) = true := by decide +kernel
set_option maxRecDepth 1000000 in
theorem cj_a217_0 : e2_idh 1 8 h_a217_0 = true := by decide +kernel
theorem cs_a217 (hen : en_ok) (l : Launch) : e2_smOk l 1 s_a217 := by
  refine e2_conG (H := 0) (n := 0) (C := evd_98) (S := S_a217) (I := I_a217) (fuel := 4000) hen ei_98 e2_fz e2_fz (by decide) co_a217 fun M d _ hC hcall p e R s m args below meth c Q D cA A ads r0 ha hl0 => ?_
  have L_0 : e2_gdM M p l e R s m args below meth c Q D cA A ads r0 2 al_a217_0 [] E_a217_0 h_a217_0 := by
    refine e2_indL (u := 1) (j := 2) (lo := 2147483648) (hi := 2147483668) (b := 1) (dd := 0) hl0 (by decide) rfl rfl (Or.inr ⟨rfl, rfl⟩) rfl ci_a217_0 cj_a217_0 ?_
    intro r_0 k_0 hk_0 hp_0 hs_0 hn_0
    have hl_0 : r_0.length ≤ 2 := hs_0.len rfl
    have ha_0 := ha.ext hp_0
    exact e2_fromM hen ha_0 hcall (e2_cutA_ok (e2_fa (fun al st E h hc => hn_0 al st E h hc) e2_fz)) (hC []) (X := e2x_98) ex2_98 2 ck_a217_0
  have EN_0 := e2_entL (u := 1) (j := 2) (lo := 2147483648) (hi := 2147483668) hl0 rfl rfl rfl ci_a217_0 cj_a217_0 L_0
  exact e2_from hen ha hcall (e2_cutA_ok (e2_fa (fun al st E h hc => EN_0 al st E h hc) e2_fz)) (hC []) (X := e2x_98) ex2_98 0 ck_a217_e
/-! a218 X6_turnYear -/
def as_a218 : List ev_V := [(2, 36, 0), (2, 1, 0)]
def E_a218 : e2_E := [(2147483648, 2147583648, 0, 0)]
def an923 : e2_Q4 := (an825, an44)
def an924 : e2_Q5 := (an923, an60)
def an925 : e2_Q6 := (an379, an924)
def an926 : e2_Q2 := (an668, an98)
def an927 : e2_Q3 := (an96, an926)
def an928 : e2_Q4 := (an927, an107)
def an929 : e2_Q5 := (an928, an384)
def an930 : e2_Q6 := (an342, an929)
def an931 : e2_Q7 := (an925, an930)
def an932 : e2_Q7 := (an719, an395)
def an933 : e2_Q8 := (an931, an932)
noncomputable def f_a218 : ev_H := (an933 : e2_Q8)
noncomputable def q_a218_0 : ev_H := (an933 : e2_Q8)
noncomputable def rs_a218 : e2_Rs := [((9, 0, 0), q_a218_0)]
noncomputable def s_a218 : e2_Sm := (103, as_a218, E_a218, f_a218, rs_a218)
noncomputable def S_a218 : List e2_Sm := [s_a7]
noncomputable def I_a218 : List e2_In := [(101, 2, e2x_101), (159, 2, e2x_159)]
set_option maxRecDepth 1000000 in
theorem co_a218 : e2_okSB E_a218.length as_a218 f_a218 rs_a218 = true := by decide +kernel
def al_a218_0 : List ev_V := [(2, 36, 0), (2, 1, 0), (1, 1, 4294967296)]
def E_a218_0 : e2_E := [(2147483648, 2147583648, 0, 0), (2147483648, 2147483668, 1, 0)]
noncomputable def h_a218_0 : ev_H := (an933 : e2_Q8)
noncomputable def cl_a218_e : List (Nat × e2_S) := [(86, e2_cutL (al_a218_0.set 2 (11, 2147483648, 2147483668)) 1 (E_a218_0.take 1) h_a218_0)]
set_option maxRecDepth 1000000 in
theorem ck_a218_e : e2_run (e2_cal S_a218 I_a218 4000 1) (e2_fin rs_a218) e2x_103 (e2_bpL cl_a218_e) (e2_cutA cl_a218_e) 4000 (e2_seek e2x_103 0) (e2_al 3 as_a218) [] E_a218 f_a218 = true := by decide +kernel
noncomputable def cl_a218_0 : List (Nat × e2_S) := [(86, e2_cutL (al_a218_0.set 2 (13, 9, 2147483668)) 1 (E_a218_0.take 1) h_a218_0)]
set_option maxRecDepth 1000000 in
theorem ck_a218_0 : e2_runM (e2_cal S_a218 I_a218 4000 1) (e2_fin rs_a218) e2x_103 (e2_bpL cl_a218_0) (e2_cutA cl_a218_0) 4000 (e2_seek e2x_103 86) al_a218_0 [] E_a218_0 h_a218_0 = true := by decide +kernel
set_option maxRecDepth 1000000 in
theorem ci_a218_0 : e2_idl 1 (al_a218_0.set 2 (9, 0, 0)) = true := by decide +kernel
set_option maxRecDepth 1000000 in
theorem cj_a218_0 : e2_idh 1 8 h_a218_0 = true := by decide +kernel
theorem cs_a218 (hen : en_ok) (l : Launch) : e2_smOk l 4 s_a218 := by
  refine e2_conG (H := 2) (n := 1) (C := evd_103) (S := S_a218) (I := I_a218) (fuel := 4000) hen ei_103 (e2_fa (cs_a7 hen l) e2_fz) (e2_fa ein_101 (e2_fa ein_159 e2_fz)) (by decide) co_a218 fun M d _ hC hcall p e R s m args below meth c Q D cA A ads r0 ha hl0 => ?_
  have L_0 : e2_gdM M p l e R s m args below meth c Q D cA A ads r0 86 al_a218_0 [] E_a218_0 h_a218_0 := by
    refine e2_indL (u := 1) (j := 2) (lo := 2147483648) (hi := 2147483668) (b := 1) (dd := 0) hl0 (by decide) rfl rfl (Or.inr ⟨rfl, rfl⟩) rfl ci_a218_0 cj_a218_0 ?_
    intro r_0 k_0 hk_0 hp_0 hs_0 hn_0
    have hl_0 : r_0.length ≤ 2 := hs_0.len rfl
    have ha_0 := ha.ext hp_0
    exact e2_fromM hen ha_0 hcall (e2_cutA_ok (e2_fa (fun al st E h hc => hn_0 al st E h hc) e2_fz)) (hC []) (X := e2x_103) ex2_103 86 ck_a218_0
  have EN_0 := e2_entL (u := 1) (j := 2) (lo := 2147483648) (hi := 2147483668) hl0 rfl rfl rfl ci_a218_0 cj_a218_0 L_0
  exact e2_from hen ha hcall (e2_cutA_ok (e2_fa (fun al st E h hc => EN_0 al st E h hc) e2_fz)) (hC []) (X := e2x_103) ex2_103 0 ck_a218_e
/-! a219 X6_turnYear -/
def as_a219 : List ev_V := [(2, 40, 0), (2, 1, 0)]
def E_a219 : e2_E := [(2147483648, 2147583648, 0, 0)]
def an934 : e2_Q5 := (an378, an854)
def an935 : e2_Q6 := (an934, an61)
def an936 : e2_Q2 := (an668, an82)
def an937 : e2_Q3 := (an80, an936)
def an938 : e2_Q4 := (an937, an91)
def an939 : e2_Q5 := (an341, an938)
def an940 : e2_Q6 := (an939, an385)
def an941 : e2_Q7 := (an935, an940)
def an942 : e2_Q7 := (an719, an403)
def an943 : e2_Q8 := (an941, an942)
noncomputable def f_a219 : ev_H := (an943 : e2_Q8)
noncomputable def q_a219_0 : ev_H := (an943 : e2_Q8)
noncomputable def rs_a219 : e2_Rs := [((9, 0, 0), q_a219_0)]
noncomputable def s_a219 : e2_Sm := (103, as_a219, E_a219, f_a219, rs_a219)
noncomputable def S_a219 : List e2_Sm := [s_a8]
noncomputable def I_a219 : List e2_In := [(101, 2, e2x_101), (159, 2, e2x_159)]
set_option maxRecDepth 1000000 in
theorem co_a219 : e2_okSB E_a219.length as_a219 f_a219 rs_a219 = true := by decide +kernel
def al_a219_0 : List ev_V := [(2, 40, 0), (2, 1, 0), (1, 1, 4294967296)]
def E_a219_0 : e2_E := [(2147483648, 2147583648, 0, 0), (2147483648, 2147483668, 1, 0)]
noncomputable def h_a219_0 : ev_H := (an943 : e2_Q8)
noncomputable def cl_a219_e : List (Nat × e2_S) := [(86, e2_cutL (al_a219_0.set 2 (11, 2147483648, 2147483668)) 1 (E_a219_0.take 1) h_a219_0)]
set_option maxRecDepth 1000000 in
theorem ck_a219_e : e2_run (e2_cal S_a219 I_a219 4000 1) (e2_fin rs_a219) e2x_103 (e2_bpL cl_a219_e) (e2_cutA cl_a219_e) 4000 (e2_seek e2x_103 0) (e2_al 3 as_a219) [] E_a219 f_a219 = true := by decide +kernel
noncomputable def cl_a219_0 : List (Nat × e2_S) := [(86, e2_cutL (al_a219_0.set 2 (13, 9, 2147483668)) 1 (E_a219_0.take 1) h_a219_0)]
set_option maxRecDepth 1000000 in
theorem ck_a219_0 : e2_runM (e2_cal S_a219 I_a219 4000 1) (e2_fin rs_a219) e2x_103 (e2_bpL cl_a219_0) (e2_cutA cl_a219_0) 4000 (e2_seek e2x_103 86) al_a219_0 [] E_a219_0 h_a219_0 = true := by decide +kernel
set_option maxRecDepth 1000000 in
theorem ci_a219_0 : e2_idl 1 (al_a219_0.set 2 (9, 0, 0)) = true := by decide +kernel
set_option maxRecDepth 1000000 in
theorem cj_a219_0 : e2_idh 1 8 h_a219_0 = true := by decide +kernel
theorem cs_a219 (hen : en_ok) (l : Launch) : e2_smOk l 4 s_a219 := by
  refine e2_conG (H := 2) (n := 1) (C := evd_103) (S := S_a219) (I := I_a219) (fuel := 4000) hen ei_103 (e2_fa (cs_a8 hen l) e2_fz) (e2_fa ein_101 (e2_fa ein_159 e2_fz)) (by decide) co_a219 fun M d _ hC hcall p e R s m args below meth c Q D cA A ads r0 ha hl0 => ?_
  have L_0 : e2_gdM M p l e R s m args below meth c Q D cA A ads r0 86 al_a219_0 [] E_a219_0 h_a219_0 := by
    refine e2_indL (u := 1) (j := 2) (lo := 2147483648) (hi := 2147483668) (b := 1) (dd := 0) hl0 (by decide) rfl rfl (Or.inr ⟨rfl, rfl⟩) rfl ci_a219_0 cj_a219_0 ?_
    intro r_0 k_0 hk_0 hp_0 hs_0 hn_0
    have hl_0 : r_0.length ≤ 2 := hs_0.len rfl
    have ha_0 := ha.ext hp_0
    exact e2_fromM hen ha_0 hcall (e2_cutA_ok (e2_fa (fun al st E h hc => hn_0 al st E h hc) e2_fz)) (hC []) (X := e2x_103) ex2_103 86 ck_a219_0
  have EN_0 := e2_entL (u := 1) (j := 2) (lo := 2147483648) (hi := 2147483668) hl0 rfl rfl rfl ci_a219_0 cj_a219_0 L_0
  exact e2_from hen ha hcall (e2_cutA_ok (e2_fa (fun al st E h hc => EN_0 al st E h hc) e2_fz)) (hC []) (X := e2x_103) ex2_103 0 ck_a219_e
/-! a220 X7_putFour -/
def as_a220 : List ev_V := [(2, 34, 0), (11, 0, 4294967295)]
def E_a220 : e2_E := [(2147483648, 2147583648, 0, 0)]
noncomputable def f_a220 : ev_H := (an254 : e2_Q8)
noncomputable def q_a220_0 : ev_H := (an254 : e2_Q8)
noncomputable def rs_a220 : e2_Rs := [((9, 0, 0), q_a220_0)]
noncomputable def s_a220 : e2_Sm := (105, as_a220, E_a220, f_a220, rs_a220)
noncomputable def S_a220 : List e2_Sm := []
noncomputable def I_a220 : List e2_In := []
set_option maxRecDepth 1000000 in
theorem co_a220 : e2_okSB E_a220.length as_a220 f_a220 rs_a220 = true := by decide +kernel
def al_a220_0 : List ev_V := [(2, 34, 0), (11, 0, 4294967295), (1, 1, 4294967296)]
def E_a220_0 : e2_E := [(2147483648, 2147583648, 0, 0), (2147483640, 2147483672, 1, 0)]
noncomputable def h_a220_0 : ev_H := (an254 : e2_Q8)
noncomputable def cl_a220_e : List (Nat × e2_S) := [(3, e2_cutL (al_a220_0.set 2 (11, 2147483640, 2147483672)) 1 (E_a220_0.take 1) h_a220_0)]
set_option maxRecDepth 1000000 in
theorem ck_a220_e : e2_run (e2_cal S_a220 I_a220 4000 0) (e2_fin rs_a220) e2x_105 (e2_bpL cl_a220_e) (e2_cutA cl_a220_e) 4000 (e2_seek e2x_105 0) (e2_al 3 as_a220) [] E_a220 f_a220 = true := by decide +kernel
noncomputable def cl_a220_0 : List (Nat × e2_S) := [(3, e2_cutL (al_a220_0.set 2 (12, 9, 2147483640)) 1 (E_a220_0.take 1) h_a220_0)]
set_option maxRecDepth 1000000 in
theorem ck_a220_0 : e2_runM (e2_cal S_a220 I_a220 4000 0) (e2_fin rs_a220) e2x_105 (e2_bpL cl_a220_0) (e2_cutA cl_a220_0) 4000 (e2_seek e2x_105 3) al_a220_0 [] E_a220_0 h_a220_0 = true := by decide +kernel
set_option maxRecDepth 1000000 in
theorem ci_a220_0 : e2_idl 1 (al_a220_0.set 2 (9, 0, 0)) = true := by decide +kernel
set_option maxRecDepth 1000000 in
theorem cj_a220_0 : e2_idh 1 8 h_a220_0 = true := by decide +kernel
theorem cs_a220 (hen : en_ok) (l : Launch) : e2_smOk l 1 s_a220 := by
  refine e2_conG (H := 0) (n := 0) (C := evd_105) (S := S_a220) (I := I_a220) (fuel := 4000) hen ei_105 e2_fz e2_fz (by decide) co_a220 fun M d _ hC hcall p e R s m args below meth c Q D cA A ads r0 ha hl0 => ?_
  have L_0 : e2_gdM M p l e R s m args below meth c Q D cA A ads r0 3 al_a220_0 [] E_a220_0 h_a220_0 := by
    refine e2_indD (u := 1) (j := 2) (lo := 2147483640) (hi := 2147483672) hl0 (by decide) rfl rfl rfl ci_a220_0 cj_a220_0 ?_
    intro r_0 k_0 hk_0 hp_0 hs_0 hn_0
    have hl_0 : r_0.length ≤ 2 := hs_0.len rfl
    have ha_0 := ha.ext hp_0
    exact e2_fromM hen ha_0 hcall (e2_cutA_ok (e2_fa (fun al st E h hc => hn_0 al st E h hc) e2_fz)) (hC []) (X := e2x_105) ex2_105 3 ck_a220_0
  have EN_0 := e2_entL (u := 1) (j := 2) (lo := 2147483640) (hi := 2147483672) hl0 rfl rfl rfl ci_a220_0 cj_a220_0 L_0
  exact e2_from hen ha hcall (e2_cutA_ok (e2_fa (fun al st E h hc => EN_0 al st E h hc) e2_fz)) (hC []) (X := e2x_105) ex2_105 0 ck_a220_e
/-! a221 X7_begin -/
def as_a221 : List ev_V := [(2, 34, 0)]
def E_a221 : e2_E := [(2147483648, 2147583648, 0, 0)]
noncomputable def f_a221 : ev_H := (an254 : e2_Q8)
noncomputable def q_a221_0 : ev_H := (an254 : e2_Q8)
noncomputable def rs_a221 : e2_Rs := [((9, 0, 0), q_a221_0)]
noncomputable def s_a221 : e2_Sm := (107, as_a221, E_a221, f_a221, rs_a221)
noncomputable def S_a221 : List e2_Sm := [s_a34]
noncomputable def I_a221 : List e2_In := []
set_option maxRecDepth 1000000 in
theorem ck_a221 : e2_run (e2_cal S_a221 I_a221 4000 0) (e2_fin rs_a221) e2x_107 (fun _ => false) (fun _ _ _ _ _ => false) 4000 (e2_seek e2x_107 0) (e2_al 1 as_a221) [] E_a221 f_a221 = true := by decide +kernel
set_option maxRecDepth 1000000 in
theorem co_a221 : e2_okSB E_a221.length as_a221 f_a221 rs_a221 = true := by decide +kernel
theorem cs_a221 (hen : en_ok) (l : Launch) (hh : e2_hand_a l) : e2_smOk l 63 s_a221 := e2_con0 (H := 62) (n := 0) (C := evd_107) (S := S_a221) (I := I_a221) (fuel := 4000) [] hen ei_107 (e2_fa (cs_a34 hen l hh) e2_fz) e2_fz (by decide) co_a221 ex2_107 ck_a221
/-! a222 X8_clear -/
def as_a222 : List ev_V := [(2, 17, 0)]
def E_a222 : e2_E := [(2147483648, 2147583648, 0, 0)]
def an944 : e2_Q2 := (an583, an86)
def an945 : e2_Q3 := (an944, an90)
def an946 : e2_Q4 := (an84, an945)
def an947 : e2_Q5 := (an341, an946)
def an948 : e2_Q6 := (an947, an493)
def an949 : e2_Q7 := (an62, an948)
def an950 : e2_Q4 := (an133, an290)
def an951 : e2_Q2 := (an583, an150)
def an952 : e2_Q3 := (an951, an154)
def an953 : e2_Q4 := (an148, an952)
def an954 : e2_Q5 := (an950, an953)
def an955 : e2_Q6 := (an954, an188)
def an956 : e2_Q5 := (an345, an513)
def an957 : e2_Q6 := (an956, an251)
def an958 : e2_Q7 := (an955, an957)
def an959 : e2_Q8 := (an949, an958)
noncomputable def f_a222 : ev_H := (an959 : e2_Q8)
noncomputable def q_a222_0 : ev_H := (an959 : e2_Q8)
noncomputable def rs_a222 : e2_Rs := [((9, 0, 0), q_a222_0)]
noncomputable def s_a222 : e2_Sm := (117, as_a222, E_a222, f_a222, rs_a222)
noncomputable def S_a222 : List e2_Sm := []
noncomputable def I_a222 : List e2_In := [(16, 1, e2x_16)]
set_option maxRecDepth 1000000 in
theorem co_a222 : e2_okSB E_a222.length as_a222 f_a222 rs_a222 = true := by decide +kernel
def al_a222_0 : List ev_V := [(2, 17, 0), (1, 1, 4294967296)]
def E_a222_0 : e2_E := [(2147483648, 2147583648, 0, 0), (2147483648, 2147483656, 1, 0)]
noncomputable def h_a222_0 : ev_H := (an959 : e2_Q8)
noncomputable def cl_a222_e : List (Nat × e2_S) := [(52, e2_cutL (al_a222_0.set 1 (11, 2147483648, 2147483656)) 1 (E_a222_0.take 1) h_a222_0)]
set_option maxRecDepth 1000000 in
theorem ck_a222_e : e2_run (e2_cal S_a222 I_a222 4000 1) (e2_fin rs_a222) e2x_117 (e2_bpL cl_a222_e) (e2_cutA cl_a222_e) 4000 (e2_seek e2x_117 0) (e2_al 2 as_a222) [] E_a222 f_a222 = true := by decide +kernel
noncomputable def cl_a222_0 : List (Nat × e2_S) := [(52, e2_cutL (al_a222_0.set 1 (13, 9, 2147483656)) 1 (E_a222_0.take 1) h_a222_0)]
set_option maxRecDepth 1000000 in
theorem ck_a222_0 : e2_runM (e2_cal S_a222 I_a222 4000 1) (e2_fin rs_a222) e2x_117 (e2_bpL cl_a222_0) (e2_cutA cl_a222_0) 4000 (e2_seek e2x_117 52) al_a222_0 [] E_a222_0 h_a222_0 = true := by decide +kernel
set_option maxRecDepth 1000000 in
theorem ci_a222_0 : e2_idl 1 (al_a222_0.set 1 (9, 0, 0)) = true := by decide +kernel
set_option maxRecDepth 1000000 in
theorem cj_a222_0 : e2_idh 1 8 h_a222_0 = true := by decide +kernel
theorem cs_a222 (hen : en_ok) (l : Launch) : e2_smOk l 2 s_a222 := by
  refine e2_conG (H := 0) (n := 1) (C := evd_117) (S := S_a222) (I := I_a222) (fuel := 4000) hen ei_117 e2_fz (e2_fa ein_16 e2_fz) (by decide) co_a222 fun M d _ hC hcall p e R s m args below meth c Q D cA A ads r0 ha hl0 => ?_
  have L_0 : e2_gdM M p l e R s m args below meth c Q D cA A ads r0 52 al_a222_0 [] E_a222_0 h_a222_0 := by
    refine e2_indL (u := 1) (j := 1) (lo := 2147483648) (hi := 2147483656) (b := 1) (dd := 0) hl0 (by decide) rfl rfl (Or.inr ⟨rfl, rfl⟩) rfl ci_a222_0 cj_a222_0 ?_
    intro r_0 k_0 hk_0 hp_0 hs_0 hn_0
    have hl_0 : r_0.length ≤ 2 := hs_0.len rfl
    have ha_0 := ha.ext hp_0
    exact e2_fromM hen ha_0 hcall (e2_cutA_ok (e2_fa (fun al st E h hc => hn_0 al st E h hc) e2_fz)) (hC []) (X := e2x_117) ex2_117 52 ck_a222_0
  have EN_0 := e2_entL (u := 1) (j := 1) (lo := 2147483648) (hi := 2147483656) hl0 rfl rfl rfl ci_a222_0 cj_a222_0 L_0
  exact e2_from hen ha hcall (e2_cutA_ok (e2_fa (fun al st E h hc => EN_0 al st E h hc) e2_fz)) (hC []) (X := e2x_117) ex2_117 0 ck_a222_e
/-! a223 X9_feed -/
def as_a223 : List ev_V := [(2, 0, 0), (11, 0, 4294967295), (11, 0, 4294967295), (11, 0, 4294967295), (11, 0, 4294967295), (11, 0, 4294967295)]
def E_a223 : e2_E := [(2147483648, 2147583648, 0, 0)]
def ac182 : ev_C := (9, [(2, 1, 0), (2, 36, 0), (2, 47, 0), (2, 59, 0), (2, 44, 0), (2, 77, 0), (2, 40, 0), (2, 33, 0), (2, 17, 0)])
def an960 : e2_Q1 := (ac182, ac1)
def an961 : e2_Q2 := (an960, an1)
def an962 : e2_Q3 := (an961, an5)
def an963 : e2_Q4 := (an962, an13)
def an964 : e2_Q5 := (an963, an29)
def an965 : e2_Q6 := (an964, an61)
def an966 : e2_Q7 := (an965, an125)
def ac183 : ev_C := (3, [(2, 34, 0), (7, 0, 0), (11, 2147483648, 2147485248), (11, 2147483648, 2147483649), (11, 0, 4294967295), (11, 0, 4294967295), (11, 0, 4294967295), (11, 0, 4294967295)])
def an967 : e2_Q1 := (ac183, ac3)
def an968 : e2_Q2 := (an967, an131)
def an969 : e2_Q3 := (an129, an968)
def an970 : e2_Q4 := (an969, an140)
def an971 : e2_Q5 := (an970, an156)
def an972 : e2_Q6 := (an971, an188)
def an973 : e2_Q7 := (an972, an252)
def an974 : e2_Q8 := (an966, an973)
noncomputable def f_a223 : ev_H := (an974 : e2_Q8)
noncomputable def q_a223_0 : ev_H := (an974 : e2_Q8)
noncomputable def rs_a223 : e2_Rs := [((11, 2147483647, 2147485248), q_a223_0)]
noncomputable def s_a223 : e2_Sm := (123, as_a223, E_a223, f_a223, rs_a223)
noncomputable def S_a223 : List e2_Sm := [s_a220]
noncomputable def I_a223 : List e2_In := [(104, 2, e2x_104)]
set_option maxRecDepth 1000000 in
theorem ck_a223 : e2_run (e2_cal S_a223 I_a223 4000 1) (e2_fin rs_a223) e2x_123 (fun _ => false) (fun _ _ _ _ _ => false) 4000 (e2_seek e2x_123 0) (e2_al 7 as_a223) [] E_a223 f_a223 = true := by decide +kernel
set_option maxRecDepth 1000000 in
theorem co_a223 : e2_okSB E_a223.length as_a223 f_a223 rs_a223 = true := by decide +kernel
theorem cs_a223 (hen : en_ok) (l : Launch) : e2_smOk l 3 s_a223 := e2_con0 (H := 1) (n := 1) (C := evd_123) (S := S_a223) (I := I_a223) (fuel := 4000) [] hen ei_123 (e2_fa (cs_a220 hen l) e2_fz) (e2_fa ein_104 e2_fz) (by decide) co_a223 ex2_123 ck_a223
/-! a224 X9_readAll -/
def as_a224 : List ev_V := [(2, 0, 0), (2, 36, 0)]
def E_a224 : e2_E := [(2147483648, 2147583648, 0, 0)]
def an975 : e2_Q4 := (an962, an806)
def an976 : e2_Q5 := (an975, an871)
def an977 : e2_Q6 := (an976, an829)
def an978 : e2_Q7 := (an977, an895)
def an979 : e2_Q5 := (an814, an899)
def an980 : e2_Q4 := (an838, an302)
def an981 : e2_Q5 := (an980, an365)
def an982 : e2_Q6 := (an979, an981)
def an983 : e2_Q4 := (an557, an883)
def an984 : e2_Q5 := (an983, an336)
def an985 : e2_Q6 := (an842, an984)
def an986 : e2_Q7 := (an982, an985)
def an987 : e2_Q8 := (an978, an986)
noncomputable def f_a224 : ev_H := (an987 : e2_Q8)
def an988 : e2_Q5 := (an983, an322)
def an989 : e2_Q6 := (an842, an988)
def an990 : e2_Q7 := (an982, an989)
def an991 : e2_Q8 := (an978, an990)
noncomputable def q_a224_0 : ev_H := (an991 : e2_Q8)
noncomputable def rs_a224 : e2_Rs := [((11, 0, 4294967295), q_a224_0)]
noncomputable def s_a224 : e2_Sm := (166, as_a224, E_a224, f_a224, rs_a224)
noncomputable def S_a224 : List e2_Sm := [s_a209, s_a213]
noncomputable def I_a224 : List e2_In := []
set_option maxRecDepth 1000000 in
theorem ck_a224 : e2_run (e2_cal S_a224 I_a224 4000 0) (e2_fin rs_a224) e2x_166 (fun _ => false) (fun _ _ _ _ _ => false) 4000 (e2_seek e2x_166 0) (e2_al 3 as_a224) [] E_a224 f_a224 = true := by decide +kernel
set_option maxRecDepth 1000000 in
theorem co_a224 : e2_okSB E_a224.length as_a224 f_a224 rs_a224 = true := by decide +kernel
theorem cs_a224 (hen : en_ok) (l : Launch) : e2_smOk l 8 s_a224 := e2_con0 (H := 7) (n := 0) (C := evd_166) (S := S_a224) (I := I_a224) (fuel := 4000) [] hen ei_166 (e2_fa ((cs_a209 hen l).mono (by decide)) (e2_fa (cs_a213 hen l) e2_fz)) e2_fz (by decide) co_a224 ex2_166 ck_a224
/-! a225 X9_takeNow -/
def as_a225 : List ev_V := [(2, 0, 0)]
def E_a225 : e2_E := [(2147483648, 2147583648, 0, 0)]
def an992 : e2_Q4 := (an537, an827)
def an993 : e2_Q2 := (an350, an259)
def an994 : e2_Q3 := (an993, an51)
def an995 : e2_Q4 := (an994, an59)
def an996 : e2_Q5 := (an992, an995)
def an997 : e2_Q6 := (an976, an996)
def an998 : e2_Q4 := (an892, an272)
def an999 : e2_Q5 := (an270, an998)
def an1000 : e2_Q3 := (an278, an832)
def an1001 : e2_Q4 := (an277, an1000)
def an1002 : e2_Q5 := (an1001, an123)
def an1003 : e2_Q6 := (an999, an1002)
def an1004 : e2_Q7 := (an997, an1003)
def an1005 : e2_Q3 := (an289, an358)
def an1006 : e2_Q4 := (an287, an1005)
def an1007 : e2_Q4 := (an898, an294)
def an1008 : e2_Q5 := (an1006, an1007)
def an1009 : e2_Q3 := (an617, an550)
def an1010 : e2_Q4 := (an1009, an302)
def an1011 : e2_Q5 := (an1010, an365)
def an1012 : e2_Q6 := (an1008, an1011)
def an1013 : e2_Q2 := (an368, an292)
def an1014 : e2_Q3 := (an1013, an210)
def an1015 : e2_Q4 := (an1014, an218)
def an1016 : e2_Q5 := (an311, an1015)
def an1017 : e2_Q4 := (an660, an883)
def an1018 : e2_Q5 := (an1017, an336)
def an1019 : e2_Q6 := (an1016, an1018)
def an1020 : e2_Q7 := (an1012, an1019)
def an1021 : e2_Q8 := (an1004, an1020)
noncomputable def f_a225 : ev_H := (an1021 : e2_Q8)
def an1022 : e2_Q5 := (an1017, an322)
def an1023 : e2_Q6 := (an1016, an1022)
def an1024 : e2_Q7 := (an1012, an1023)
def an1025 : e2_Q8 := (an1004, an1024)
noncomputable def q_a225_0 : ev_H := (an1025 : e2_Q8)
noncomputable def rs_a225 : e2_Rs := [((11, 2147483648, 2147483649), q_a225_0)]
noncomputable def s_a225 : e2_Sm := (167, as_a225, E_a225, f_a225, rs_a225)
noncomputable def S_a225 : List e2_Sm := [s_a3, s_a224]
noncomputable def I_a225 : List e2_In := []
set_option maxRecDepth 1000000 in
theorem ck_a225 : e2_run (e2_cal S_a225 I_a225 4000 0) (e2_fin rs_a225) e2x_167 (fun _ => false) (fun _ _ _ _ _ => false) 4000 (e2_seek e2x_167 0) (e2_al 1 as_a225) [] E_a225 f_a225 = true := by decide +kernel
set_option maxRecDepth 1000000 in
theorem co_a225 : e2_okSB E_a225.length as_a225 f_a225 rs_a225 = true := by decide +kernel
theorem cs_a225 (hen : en_ok) (l : Launch) (hh : e2_hand_a l) : e2_smOk l 61 s_a225 := e2_con0 (H := 60) (n := 0) (C := evd_167) (S := S_a225) (I := I_a225) (fuel := 4000) [] hen ei_167 (e2_fa (hh _ hm_a3) (e2_fa ((cs_a224 hen l).mono (by decide)) e2_fz)) e2_fz (by decide) co_a225 ex2_167 ck_a225
/-! a226 X9_glyph -/
def as_a226 : List ev_V := [(2, 0, 0), (11, 0, 4294967295), (11, 0, 4294967295)]
def E_a226 : e2_E := [(2147483648, 2147583648, 0, 0)]
def an1026 : e2_Q4 := (an625, an870)
def an1027 : e2_Q5 := (an975, an1026)
def an1028 : e2_Q6 := (an1027, an996)
def an1029 : e2_Q7 := (an1028, an1003)
def an1030 : e2_Q8 := (an1029, an1020)
noncomputable def f_a226 : ev_H := (an1030 : e2_Q8)
noncomputable def q_a226_0 : ev_H := (an1030 : e2_Q8)
noncomputable def rs_a226 : e2_Rs := [((11, 0, 4294967295), q_a226_0)]
noncomputable def s_a226 : e2_Sm := (128, as_a226, E_a226, f_a226, rs_a226)
noncomputable def S_a226 : List e2_Sm := [s_a216, s_a225]
noncomputable def I_a226 : List e2_In := [(162, 2, e2x_162)]
set_option maxRecDepth 1000000 in
theorem ck_a226 : e2_run (e2_cal S_a226 I_a226 4000 1) (e2_fin rs_a226) e2x_128 (fun _ => false) (fun _ _ _ _ _ => false) 4000 (e2_seek e2x_128 0) (e2_al 3 as_a226) [] E_a226 f_a226 = true := by decide +kernel
set_option maxRecDepth 1000000 in
theorem co_a226 : e2_okSB E_a226.length as_a226 f_a226 rs_a226 = true := by decide +kernel
theorem cs_a226 (hen : en_ok) (l : Launch) (hh : e2_hand_a l) : e2_smOk l 63 s_a226 := e2_con0 (H := 61) (n := 1) (C := evd_128) (S := S_a226) (I := I_a226) (fuel := 4000) [] hen ei_128 (e2_fa ((cs_a216 hen l).mono (by decide)) (e2_fa (cs_a225 hen l hh) e2_fz)) (e2_fa ein_162 e2_fz) (by decide) co_a226 ex2_128 ck_a226
/-! a227 X9_plot -/
def as_a227 : List ev_V := [(2, 0, 0), (11, 0, 4294967295), (11, 0, 4294967295)]
def E_a227 : e2_E := [(2147483648, 2147583648, 0, 0)]
def an1031 : e2_Q3 := (an276, an926)
def an1032 : e2_Q4 := (an1031, an1000)
def an1033 : e2_Q5 := (an1032, an123)
def an1034 : e2_Q6 := (an999, an1033)
def an1035 : e2_Q7 := (an997, an1034)
def an1036 : e2_Q8 := (an1035, an1020)
noncomputable def f_a227 : ev_H := (an1036 : e2_Q8)
noncomputable def q_a227_0 : ev_H := (an1036 : e2_Q8)
noncomputable def rs_a227 : e2_Rs := [((11, 0, 4294967295), q_a227_0)]
noncomputable def s_a227 : e2_Sm := (129, as_a227, E_a227, f_a227, rs_a227)
noncomputable def S_a227 : List e2_Sm := [s_a217, s_a225]
noncomputable def I_a227 : List e2_In := [(159, 2, e2x_159), (163, 2, e2x_163)]
set_option maxRecDepth 1000000 in
theorem ck_a227 : e2_run (e2_cal S_a227 I_a227 4000 1) (e2_fin rs_a227) e2x_129 (fun _ => false) (fun _ _ _ _ _ => false) 4000 (e2_seek e2x_129 0) (e2_al 4 as_a227) [] E_a227 f_a227 = true := by decide +kernel
set_option maxRecDepth 1000000 in
theorem co_a227 : e2_okSB E_a227.length as_a227 f_a227 rs_a227 = true := by decide +kernel
theorem cs_a227 (hen : en_ok) (l : Launch) (hh : e2_hand_a l) : e2_smOk l 63 s_a227 := e2_con0 (H := 61) (n := 1) (C := evd_129) (S := S_a227) (I := I_a227) (fuel := 4000) [] hen ei_129 (e2_fa ((cs_a217 hen l).mono (by decide)) (e2_fa (cs_a225 hen l hh) e2_fz)) (e2_fa ein_159 (e2_fa ein_163 e2_fz)) (by decide) co_a227 ex2_129 ck_a227
/-! a228 X9_passYear -/
def as_a228 : List ev_V := [(2, 0, 0), (2, 36, 0)]
def E_a228 : e2_E := [(2147483648, 2147583648, 0, 0)]
def an1037 : e2_Q3 := (an376, an805)
def an1038 : e2_Q4 := (an962, an1037)
def an1039 : e2_Q5 := (an1038, an1026)
def an1040 : e2_Q6 := (an1039, an996)
def an1041 : e2_Q5 := (an1032, an384)
def an1042 : e2_Q6 := (an999, an1041)
def an1043 : e2_Q7 := (an1040, an1042)
def an1044 : e2_Q3 := (an659, an388)
def an1045 : e2_Q4 := (an1044, an883)
def an1046 : e2_Q3 := (an391, an334)
def an1047 : e2_Q4 := (an1046, an249)
def an1048 : e2_Q5 := (an1045, an1047)
def an1049 : e2_Q6 := (an1016, an1048)
def an1050 : e2_Q7 := (an1012, an1049)
def an1051 : e2_Q8 := (an1043, an1050)
noncomputable def f_a228 : ev_H := (an1051 : e2_Q8)
def an1052 : e2_Q3 := (an391, an320)
def an1053 : e2_Q4 := (an1052, an249)
def an1054 : e2_Q5 := (an1045, an1053)
def an1055 : e2_Q6 := (an1016, an1054)
def an1056 : e2_Q7 := (an1012, an1055)
def an1057 : e2_Q8 := (an1043, an1056)
noncomputable def q_a228_0 : ev_H := (an1057 : e2_Q8)
noncomputable def rs_a228 : e2_Rs := [((11, 2147483647, 2147483668), q_a228_0)]
noncomputable def s_a228 : e2_Sm := (168, as_a228, E_a228, f_a228, rs_a228)
noncomputable def S_a228 : List e2_Sm := [s_a3, s_a218, s_a224]
noncomputable def I_a228 : List e2_In := [(102, 3, e2x_102), (160, 2, e2x_160)]
set_option maxRecDepth 1000000 in
theorem co_a228 : e2_okSB E_a228.length as_a228 f_a228 rs_a228 = true := by decide +kernel
def al_a228_0 : List ev_V := [(2, 0, 0), (2, 36, 0), (11, 2147483648, 2147483668), (1, 1, 4294967296), (9, 0, 0)]
def E_a228_0 : e2_E := [(2147483648, 2147583648, 0, 0), (2147483648, 2147483668, 1, 0)]
noncomputable def h_a228_0 : ev_H := (an1057 : e2_Q8)
noncomputable def cl_a228_e : List (Nat × e2_S) := [(30, e2_cutL (al_a228_0.set 3 (11, 2147483648, 2147483668)) 1 (E_a228_0.take 1) h_a228_0)]
set_option maxRecDepth 1000000 in
theorem ck_a228_e : e2_run (e2_cal S_a228 I_a228 4000 2) (e2_fin rs_a228) e2x_168 (e2_bpL cl_a228_e) (e2_cutA cl_a228_e) 4000 (e2_seek e2x_168 0) (e2_al 5 as_a228) [] E_a228 f_a228 = true := by decide +kernel
noncomputable def cl_a228_0 : List (Nat × e2_S) := [(30, e2_cutL (al_a228_0.set 3 (13, 9, 2147483668)) 1 (E_a228_0.take 1) h_a228_0)]
set_option maxRecDepth 1000000 in
theorem ck_a228_0 : e2_runM (e2_cal S_a228 I_a228 4000 2) (e2_fin rs_a228) e2x_168 (e2_bpL cl_a228_0) (e2_cutA cl_a228_0) 4000 (e2_seek e2x_168 30) al_a228_0 [] E_a228_0 h_a228_0 = true := by decide +kernel
set_option maxRecDepth 1000000 in
theorem ci_a228_0 : e2_idl 1 (al_a228_0.set 3 (9, 0, 0)) = true := by decide +kernel
set_option maxRecDepth 1000000 in
theorem cj_a228_0 : e2_idh 1 8 h_a228_0 = true := by decide +kernel
theorem cs_a228 (hen : en_ok) (l : Launch) (hh : e2_hand_a l) : e2_smOk l 63 s_a228 := by
  refine e2_conG (H := 60) (n := 2) (C := evd_168) (S := S_a228) (I := I_a228) (fuel := 4000) hen ei_168 (e2_fa (hh _ hm_a3) (e2_fa ((cs_a218 hen l).mono (by decide)) (e2_fa ((cs_a224 hen l).mono (by decide)) e2_fz))) (e2_fa ein_102 (e2_fa ein_160 e2_fz)) (by decide) co_a228 fun M d _ hC hcall p e R s m args below meth c Q D cA A ads r0 ha hl0 => ?_
  have L_0 : e2_gdM M p l e R s m args below meth c Q D cA A ads r0 30 al_a228_0 [] E_a228_0 h_a228_0 := by
    refine e2_indL (u := 1) (j := 3) (lo := 2147483648) (hi := 2147483668) (b := 1) (dd := 0) hl0 (by decide) rfl rfl (Or.inr ⟨rfl, rfl⟩) rfl ci_a228_0 cj_a228_0 ?_
    intro r_0 k_0 hk_0 hp_0 hs_0 hn_0
    have hl_0 : r_0.length ≤ 2 := hs_0.len rfl
    have ha_0 := ha.ext hp_0
    exact e2_fromM hen ha_0 hcall (e2_cutA_ok (e2_fa (fun al st E h hc => hn_0 al st E h hc) e2_fz)) (hC []) (X := e2x_168) ex2_168 30 ck_a228_0
  have EN_0 := e2_entL (u := 1) (j := 3) (lo := 2147483648) (hi := 2147483668) hl0 rfl rfl rfl ci_a228_0 cj_a228_0 L_0
  exact e2_from hen ha hcall (e2_cutA_ok (e2_fa (fun al st E h hc => EN_0 al st E h hc) e2_fz)) (hC []) (X := e2x_168) ex2_168 0 ck_a228_e
/-! a229 X9_year -/
def as_a229 : List ev_V := [(2, 0, 0)]
def E_a229 : e2_E := [(2147483648, 2147583648, 0, 0)]
def ac184 : ev_C := (2, [(11, 0, 4294967295), (2, 45, 0), (11, 0, 4294967295), (11, 0, 4294967295), (2, 46, 0), (11, 0, 4294967295)])
def an1058 : e2_Q1 := (ac184, ac3)
def an1059 : e2_Q2 := (an1058, an50)
def an1060 : e2_Q3 := (an993, an1059)
def an1061 : e2_Q4 := (an1060, an59)
def an1062 : e2_Q5 := (an992, an1061)
def an1063 : e2_Q6 := (an1039, an1062)
def an1064 : e2_Q7 := (an1063, an1042)
def ac185 : ev_C := (54, [(0, 1107, 0), (11, 0, 4294967295)])
def an1065 : e2_Q1 := (ac185, ac3)
def an1066 : e2_Q2 := (an1065, an177)
def an1067 : e2_Q3 := (an363, an1066)
def an1068 : e2_Q4 := (an1067, an186)
def an1069 : e2_Q5 := (an1010, an1068)
def an1070 : e2_Q6 := (an1008, an1069)
def an1071 : e2_Q7 := (an1070, an1049)
def an1072 : e2_Q8 := (an1064, an1071)
noncomputable def f_a229 : ev_H := (an1072 : e2_Q8)
noncomputable def q_a229_0 : ev_H := (an1072 : e2_Q8)
noncomputable def rs_a229 : e2_Rs := [((11, 2147483646, 2147483668), q_a229_0)]
noncomputable def s_a229 : e2_Sm := (132, as_a229, E_a229, f_a229, rs_a229)
noncomputable def S_a229 : List e2_Sm := [s_a228]
noncomputable def I_a229 : List e2_In := [(9, 4, e2x_9), (35, 2, e2x_35), (36, 1, e2x_36)]
set_option maxRecDepth 1000000 in
theorem ck_a229 : e2_run (e2_cal S_a229 I_a229 4000 2) (e2_fin rs_a229) e2x_132 (fun _ => false) (fun _ _ _ _ _ => false) 4000 (e2_seek e2x_132 0) (e2_al 2 as_a229) [] E_a229 f_a229 = true := by decide +kernel
set_option maxRecDepth 1000000 in
theorem co_a229 : e2_okSB E_a229.length as_a229 f_a229 rs_a229 = true := by decide +kernel
theorem cs_a229 (hen : en_ok) (l : Launch) (hh : e2_hand_a l) : e2_smOk l 66 s_a229 := e2_con0 (H := 63) (n := 2) (C := evd_132) (S := S_a229) (I := I_a229) (fuel := 4000) [] hen ei_132 (e2_fa (cs_a228 hen l hh) e2_fz) (e2_fa ein_9 (e2_fa ein_35 (e2_fa ein_36 e2_fz))) (by decide) co_a229 ex2_132 ck_a229
/-! a230 X9_readings -/
def as_a230 : List ev_V := [(2, 0, 0)]
def E_a230 : e2_E := [(2147483648, 2147583648, 0, 0)]
noncomputable def f_a230 : ev_H := (an987 : e2_Q8)
noncomputable def q_a230_0 : ev_H := (an991 : e2_Q8)
noncomputable def rs_a230 : e2_Rs := [((11, 0, 4294967295), q_a230_0)]
noncomputable def s_a230 : e2_Sm := (135, as_a230, E_a230, f_a230, rs_a230)
noncomputable def S_a230 : List e2_Sm := [s_a224]
noncomputable def I_a230 : List e2_In := []
set_option maxRecDepth 1000000 in
theorem ck_a230 : e2_run (e2_cal S_a230 I_a230 4000 0) (e2_fin rs_a230) e2x_135 (fun _ => false) (fun _ _ _ _ _ => false) 4000 (e2_seek e2x_135 0) (e2_al 1 as_a230) [] E_a230 f_a230 = true := by decide +kernel
set_option maxRecDepth 1000000 in
theorem co_a230 : e2_okSB E_a230.length as_a230 f_a230 rs_a230 = true := by decide +kernel
theorem cs_a230 (hen : en_ok) (l : Launch) : e2_smOk l 9 s_a230 := e2_con0 (H := 8) (n := 0) (C := evd_135) (S := S_a230) (I := I_a230) (fuel := 4000) [] hen ei_135 (e2_fa (cs_a224 hen l) e2_fz) e2_fz (by decide) co_a230 ex2_135 ck_a230
/-! a231 X9_taken -/
def as_a231 : List ev_V := [(2, 0, 0)]
def E_a231 : e2_E := [(2147483648, 2147583648, 0, 0)]
def an1073 : e2_Q4 := (an994, an689)
def an1074 : e2_Q5 := (an992, an1073)
def an1075 : e2_Q6 := (an976, an1074)
def an1076 : e2_Q7 := (an1075, an1003)
def an1077 : e2_Q4 := (an1014, an568)
def an1078 : e2_Q5 := (an311, an1077)
def an1079 : e2_Q6 := (an1078, an1018)
def an1080 : e2_Q7 := (an1012, an1079)
def an1081 : e2_Q8 := (an1076, an1080)
noncomputable def f_a231 : ev_H := (an1081 : e2_Q8)
def an1082 : e2_Q6 := (an1078, an1022)
def an1083 : e2_Q7 := (an1012, an1082)
def an1084 : e2_Q8 := (an1076, an1083)
noncomputable def q_a231_0 : ev_H := (an1084 : e2_Q8)
noncomputable def rs_a231 : e2_Rs := [((11, 2147483647, 2147483668), q_a231_0)]
noncomputable def s_a231 : e2_Sm := (136, as_a231, E_a231, f_a231, rs_a231)
noncomputable def S_a231 : List e2_Sm := [s_a225]
noncomputable def I_a231 : List e2_In := [(63, 1, e2x_63), (64, 2, e2x_64)]
set_option maxRecDepth 1000000 in
theorem co_a231 : e2_okSB E_a231.length as_a231 f_a231 rs_a231 = true := by decide +kernel
def al_a231_0 : List ev_V := [(2, 0, 0), (1, 1, 4294967296)]
def E_a231_0 : e2_E := [(2147483648, 2147583648, 0, 0), (2147483648, 2147483668, 1, 0)]
noncomputable def h_a231_0 : ev_H := (an1084 : e2_Q8)
noncomputable def cl_a231_e : List (Nat × e2_S) := [(18, e2_cutL (al_a231_0.set 1 (11, 2147483648, 2147483668)) 1 (E_a231_0.take 1) h_a231_0)]
set_option maxRecDepth 1000000 in
theorem ck_a231_e : e2_run (e2_cal S_a231 I_a231 4000 1) (e2_fin rs_a231) e2x_136 (e2_bpL cl_a231_e) (e2_cutA cl_a231_e) 4000 (e2_seek e2x_136 0) (e2_al 2 as_a231) [] E_a231 f_a231 = true := by decide +kernel
noncomputable def cl_a231_0 : List (Nat × e2_S) := [(18, e2_cutL (al_a231_0.set 1 (13, 9, 2147483668)) 1 (E_a231_0.take 1) h_a231_0)]
set_option maxRecDepth 1000000 in
theorem ck_a231_0 : e2_runM (e2_cal S_a231 I_a231 4000 1) (e2_fin rs_a231) e2x_136 (e2_bpL cl_a231_0) (e2_cutA cl_a231_0) 4000 (e2_seek e2x_136 18) al_a231_0 [] E_a231_0 h_a231_0 = true := by decide +kernel
set_option maxRecDepth 1000000 in
theorem ci_a231_0 : e2_idl 1 (al_a231_0.set 1 (9, 0, 0)) = true := by decide +kernel
set_option maxRecDepth 1000000 in
theorem cj_a231_0 : e2_idh 1 8 h_a231_0 = true := by decide +kernel
theorem cs_a231 (hen : en_ok) (l : Launch) (hh : e2_hand_a l) : e2_smOk l 63 s_a231 := by
  refine e2_conG (H := 61) (n := 1) (C := evd_136) (S := S_a231) (I := I_a231) (fuel := 4000) hen ei_136 (e2_fa (cs_a225 hen l hh) e2_fz) (e2_fa ein_63 (e2_fa ein_64 e2_fz)) (by decide) co_a231 fun M d _ hC hcall p e R s m args below meth c Q D cA A ads r0 ha hl0 => ?_
  have L_0 : e2_gdM M p l e R s m args below meth c Q D cA A ads r0 18 al_a231_0 [] E_a231_0 h_a231_0 := by
    refine e2_indL (u := 1) (j := 1) (lo := 2147483648) (hi := 2147483668) (b := 1) (dd := 0) hl0 (by decide) rfl rfl (Or.inr ⟨rfl, rfl⟩) rfl ci_a231_0 cj_a231_0 ?_
    intro r_0 k_0 hk_0 hp_0 hs_0 hn_0
    have hl_0 : r_0.length ≤ 2 := hs_0.len rfl
    have ha_0 := ha.ext hp_0
    exact e2_fromM hen ha_0 hcall (e2_cutA_ok (e2_fa (fun al st E h hc => hn_0 al st E h hc) e2_fz)) (hC []) (X := e2x_136) ex2_136 18 ck_a231_0
  have EN_0 := e2_entL (u := 1) (j := 1) (lo := 2147483648) (hi := 2147483668) hl0 rfl rfl rfl ci_a231_0 cj_a231_0 L_0
  exact e2_from hen ha hcall (e2_cutA_ok (e2_fa (fun al st E h hc => EN_0 al st E h hc) e2_fz)) (hC []) (X := e2x_136) ex2_136 0 ck_a231_e
/-! a232 X9_weight -/
def as_a232 : List ev_V := [(2, 0, 0)]
def E_a232 : e2_E := [(2147483648, 2147583648, 0, 0)]
noncomputable def f_a232 : ev_H := (an987 : e2_Q8)
noncomputable def q_a232_0 : ev_H := (an991 : e2_Q8)
noncomputable def rs_a232 : e2_Rs := [((11, 0, 4294967295), q_a232_0)]
noncomputable def s_a232 : e2_Sm := (137, as_a232, E_a232, f_a232, rs_a232)
noncomputable def S_a232 : List e2_Sm := [s_a224]
noncomputable def I_a232 : List e2_In := [(89, 1, e2x_89), (90, 5, e2x_90)]
set_option maxRecDepth 1000000 in
theorem ck_a232 : e2_run (e2_cal S_a232 I_a232 4000 2) (e2_fin rs_a232) e2x_137 (fun _ => false) (fun _ _ _ _ _ => false) 4000 (e2_seek e2x_137 0) (e2_al 1 as_a232) [] E_a232 f_a232 = true := by decide +kernel
set_option maxRecDepth 1000000 in
theorem co_a232 : e2_okSB E_a232.length as_a232 f_a232 rs_a232 = true := by decide +kernel
theorem cs_a232 (hen : en_ok) (l : Launch) : e2_smOk l 11 s_a232 := e2_con0 (H := 8) (n := 2) (C := evd_137) (S := S_a232) (I := I_a232) (fuel := 4000) [] hen ei_137 (e2_fa (cs_a224 hen l) e2_fz) (e2_fa ein_89 (e2_fa ein_90 e2_fz)) (by decide) co_a232 ex2_137 ck_a232
/-! a233 X9_does -/
def as_a233 : List ev_V := [(2, 0, 0), (11, 0, 4294967295)]
def E_a233 : e2_E := [(2147483648, 2147583648, 0, 0)]
noncomputable def f_a233 : ev_H := (an1030 : e2_Q8)
noncomputable def q_a233_0 : ev_H := (an1030 : e2_Q8)
noncomputable def rs_a233 : e2_Rs := [((11, 0, 4294967295), q_a233_0)]
noncomputable def s_a233 : e2_Sm := (138, as_a233, E_a233, f_a233, rs_a233)
noncomputable def S_a233 : List e2_Sm := [s_a214, s_a225]
noncomputable def I_a233 : List e2_In := [(161, 2, e2x_161)]
set_option maxRecDepth 1000000 in
theorem ck_a233 : e2_run (e2_cal S_a233 I_a233 4000 1) (e2_fin rs_a233) e2x_138 (fun _ => false) (fun _ _ _ _ _ => false) 4000 (e2_seek e2x_138 0) (e2_al 2 as_a233) [] E_a233 f_a233 = true := by decide +kernel
set_option maxRecDepth 1000000 in
theorem co_a233 : e2_okSB E_a233.length as_a233 f_a233 rs_a233 = true := by decide +kernel
theorem cs_a233 (hen : en_ok) (l : Launch) (hh : e2_hand_a l) : e2_smOk l 63 s_a233 := e2_con0 (H := 61) (n := 1) (C := evd_138) (S := S_a233) (I := I_a233) (fuel := 4000) [] hen ei_138 (e2_fa ((cs_a214 hen l).mono (by decide)) (e2_fa (cs_a225 hen l hh) e2_fz)) (e2_fa ein_161 e2_fz) (by decide) co_a233 ex2_138 ck_a233
/-! a234 X9_readAll -/
def as_a234 : List ev_V := [(2, 0, 0), (2, 40, 0)]
def E_a234 : e2_E := [(2147483648, 2147583648, 0, 0)]
def an1085 : e2_Q4 := (an853, an870)
def an1086 : e2_Q5 := (an975, an1085)
def an1087 : e2_Q6 := (an1086, an857)
def an1088 : e2_Q7 := (an1087, an895)
def an1089 : e2_Q3 := (an897, an860)
def an1090 : e2_Q4 := (an1089, an155)
def an1091 : e2_Q5 := (an814, an1090)
def an1092 : e2_Q5 := (an901, an365)
def an1093 : e2_Q6 := (an1091, an1092)
def an1094 : e2_Q7 := (an1093, an985)
def an1095 : e2_Q8 := (an1088, an1094)
noncomputable def f_a234 : ev_H := (an1095 : e2_Q8)
def an1096 : e2_Q7 := (an1093, an989)
def an1097 : e2_Q8 := (an1088, an1096)
noncomputable def q_a234_0 : ev_H := (an1097 : e2_Q8)
noncomputable def rs_a234 : e2_Rs := [((11, 0, 4294967295), q_a234_0)]
noncomputable def s_a234 : e2_Sm := (166, as_a234, E_a234, f_a234, rs_a234)
noncomputable def S_a234 : List e2_Sm := [s_a210, s_a213]
noncomputable def I_a234 : List e2_In := []
set_option maxRecDepth 1000000 in
theorem ck_a234 : e2_run (e2_cal S_a234 I_a234 4000 0) (e2_fin rs_a234) e2x_166 (fun _ => false) (fun _ _ _ _ _ => false) 4000 (e2_seek e2x_166 0) (e2_al 3 as_a234) [] E_a234 f_a234 = true := by decide +kernel
set_option maxRecDepth 1000000 in
theorem co_a234 : e2_okSB E_a234.length as_a234 f_a234 rs_a234 = true := by decide +kernel
theorem cs_a234 (hen : en_ok) (l : Launch) : e2_smOk l 8 s_a234 := e2_con0 (H := 7) (n := 0) (C := evd_166) (S := S_a234) (I := I_a234) (fuel := 4000) [] hen ei_166 (e2_fa ((cs_a210 hen l).mono (by decide)) (e2_fa (cs_a213 hen l) e2_fz)) e2_fz (by decide) co_a234 ex2_166 ck_a234
/-! a235 X9_passYear -/
def as_a235 : List ev_V := [(2, 0, 0), (2, 40, 0)]
def E_a235 : e2_E := [(2147483648, 2147583648, 0, 0)]
def an1098 : e2_Q3 := (an624, an852)
def an1099 : e2_Q4 := (an1098, an870)
def an1100 : e2_Q5 := (an1038, an1099)
def an1101 : e2_Q4 := (an257, an827)
def an1102 : e2_Q5 := (an1101, an995)
def an1103 : e2_Q6 := (an1100, an1102)
def an1104 : e2_Q3 := (an891, an936)
def an1105 : e2_Q4 := (an1104, an272)
def an1106 : e2_Q5 := (an270, an1105)
def an1107 : e2_Q5 := (an1001, an384)
def an1108 : e2_Q6 := (an1106, an1107)
def an1109 : e2_Q7 := (an1103, an1108)
def an1110 : e2_Q4 := (an1089, an294)
def an1111 : e2_Q5 := (an1006, an1110)
def an1112 : e2_Q5 := (an648, an365)
def an1113 : e2_Q6 := (an1111, an1112)
def an1114 : e2_Q3 := (an1013, an398)
def an1115 : e2_Q4 := (an1114, an218)
def an1116 : e2_Q5 := (an311, an1115)
def an1117 : e2_Q5 := (an1017, an1047)
def an1118 : e2_Q6 := (an1116, an1117)
def an1119 : e2_Q7 := (an1113, an1118)
def an1120 : e2_Q8 := (an1109, an1119)
noncomputable def f_a235 : ev_H := (an1120 : e2_Q8)
def an1121 : e2_Q5 := (an1017, an1053)
def an1122 : e2_Q6 := (an1116, an1121)
def an1123 : e2_Q7 := (an1113, an1122)
def an1124 : e2_Q8 := (an1109, an1123)
noncomputable def q_a235_0 : ev_H := (an1124 : e2_Q8)
noncomputable def rs_a235 : e2_Rs := [((11, 2147483647, 2147483668), q_a235_0)]
noncomputable def s_a235 : e2_Sm := (168, as_a235, E_a235, f_a235, rs_a235)
noncomputable def S_a235 : List e2_Sm := [s_a3, s_a219, s_a234]
noncomputable def I_a235 : List e2_In := [(102, 3, e2x_102), (160, 2, e2x_160)]
set_option maxRecDepth 1000000 in
theorem co_a235 : e2_okSB E_a235.length as_a235 f_a235 rs_a235 = true := by decide +kernel
def al_a235_0 : List ev_V := [(2, 0, 0), (2, 40, 0), (11, 2147483648, 2147483668), (1, 1, 4294967296), (9, 0, 0)]
def E_a235_0 : e2_E := [(2147483648, 2147583648, 0, 0), (2147483648, 2147483668, 1, 0)]
noncomputable def h_a235_0 : ev_H := (an1124 : e2_Q8)
noncomputable def cl_a235_e : List (Nat × e2_S) := [(30, e2_cutL (al_a235_0.set 3 (11, 2147483648, 2147483668)) 1 (E_a235_0.take 1) h_a235_0)]
set_option maxRecDepth 1000000 in
theorem ck_a235_e : e2_run (e2_cal S_a235 I_a235 4000 2) (e2_fin rs_a235) e2x_168 (e2_bpL cl_a235_e) (e2_cutA cl_a235_e) 4000 (e2_seek e2x_168 0) (e2_al 5 as_a235) [] E_a235 f_a235 = true := by decide +kernel
noncomputable def cl_a235_0 : List (Nat × e2_S) := [(30, e2_cutL (al_a235_0.set 3 (13, 9, 2147483668)) 1 (E_a235_0.take 1) h_a235_0)]
set_option maxRecDepth 1000000 in
theorem ck_a235_0 : e2_runM (e2_cal S_a235 I_a235 4000 2) (e2_fin rs_a235) e2x_168 (e2_bpL cl_a235_0) (e2_cutA cl_a235_0) 4000 (e2_seek e2x_168 30) al_a235_0 [] E_a235_0 h_a235_0 = true := by decide +kernel
set_option maxRecDepth 1000000 in
theorem ci_a235_0 : e2_idl 1 (al_a235_0.set 3 (9, 0, 0)) = true := by decide +kernel
set_option maxRecDepth 1000000 in
theorem cj_a235_0 : e2_idh 1 8 h_a235_0 = true := by decide +kernel
theorem cs_a235 (hen : en_ok) (l : Launch) (hh : e2_hand_a l) : e2_smOk l 63 s_a235 := by
  refine e2_conG (H := 60) (n := 2) (C := evd_168) (S := S_a235) (I := I_a235) (fuel := 4000) hen ei_168 (e2_fa (hh _ hm_a3) (e2_fa ((cs_a219 hen l).mono (by decide)) (e2_fa ((cs_a234 hen l).mono (by decide)) e2_fz))) (e2_fa ein_102 (e2_fa ein_160 e2_fz)) (by decide) co_a235 fun M d _ hC hcall p e R s m args below meth c Q D cA A ads r0 ha hl0 => ?_
  have L_0 : e2_gdM M p l e R s m args below meth c Q D cA A ads r0 30 al_a235_0 [] E_a235_0 h_a235_0 := by
    refine e2_indL (u := 1) (j := 3) (lo := 2147483648) (hi := 2147483668) (b := 1) (dd := 0) hl0 (by decide) rfl rfl (Or.inr ⟨rfl, rfl⟩) rfl ci_a235_0 cj_a235_0 ?_
    intro r_0 k_0 hk_0 hp_0 hs_0 hn_0
    have hl_0 : r_0.length ≤ 2 := hs_0.len rfl
    have ha_0 := ha.ext hp_0
    exact e2_fromM hen ha_0 hcall (e2_cutA_ok (e2_fa (fun al st E h hc => hn_0 al st E h hc) e2_fz)) (hC []) (X := e2x_168) ex2_168 30 ck_a235_0
  have EN_0 := e2_entL (u := 1) (j := 3) (lo := 2147483648) (hi := 2147483668) hl0 rfl rfl rfl ci_a235_0 cj_a235_0 L_0
  exact e2_from hen ha hcall (e2_cutA_ok (e2_fa (fun al st E h hc => EN_0 al st E h hc) e2_fz)) (hC []) (X := e2x_168) ex2_168 0 ck_a235_e
/-! a236 X9_goAhead -/
def as_a236 : List ev_V := [(2, 0, 0), (11, 0, 4294967295)]
def E_a236 : e2_E := [(2147483648, 2147583648, 0, 0)]
def an1125 : e2_Q6 := (an1100, an996)
def an1126 : e2_Q6 := (an1106, an1041)
def an1127 : e2_Q7 := (an1125, an1126)
def an1128 : e2_Q6 := (an1111, an1011)
def an1129 : e2_Q7 := (an1128, an1118)
def an1130 : e2_Q8 := (an1127, an1129)
noncomputable def f_a236 : ev_H := (an1130 : e2_Q8)
noncomputable def q_a236_0 : ev_H := (an1130 : e2_Q8)
noncomputable def rs_a236 : e2_Rs := [((11, 2147483648, 2147483649), q_a236_0)]
noncomputable def s_a236 : e2_Sm := (169, as_a236, E_a236, f_a236, rs_a236)
noncomputable def S_a236 : List e2_Sm := [s_a235]
noncomputable def I_a236 : List e2_In := [(99, 2, e2x_99)]
set_option maxRecDepth 1000000 in
theorem co_a236 : e2_okSB E_a236.length as_a236 f_a236 rs_a236 = true := by decide +kernel
def al_a236_0 : List ev_V := [(2, 0, 0), (11, 2147483648, 2147483708), (1, 1, 4294967296)]
def E_a236_0 : e2_E := [(2147483648, 2147583648, 0, 0), (2147483648, 2147483708, 1, 0)]
noncomputable def h_a236_0 : ev_H := (an1130 : e2_Q8)
noncomputable def cl_a236_e : List (Nat × e2_S) := [(25, e2_cutL (al_a236_0.set 2 (11, 2147483648, 2147483708)) 1 (E_a236_0.take 1) h_a236_0)]
set_option maxRecDepth 1000000 in
theorem ck_a236_e : e2_run (e2_cal S_a236 I_a236 4000 1) (e2_fin rs_a236) e2x_169 (e2_bpL cl_a236_e) (e2_cutA cl_a236_e) 4000 (e2_seek e2x_169 0) (e2_al 3 as_a236) [] E_a236 f_a236 = true := by decide +kernel
noncomputable def cl_a236_0 : List (Nat × e2_S) := [(25, e2_cutL (al_a236_0.set 2 (13, 9, 2147483708)) 1 (E_a236_0.take 1) h_a236_0)]
set_option maxRecDepth 1000000 in
theorem ck_a236_0 : e2_runM (e2_cal S_a236 I_a236 4000 1) (e2_fin rs_a236) e2x_169 (e2_bpL cl_a236_0) (e2_cutA cl_a236_0) 4000 (e2_seek e2x_169 25) al_a236_0 [] E_a236_0 h_a236_0 = true := by decide +kernel
set_option maxRecDepth 1000000 in
theorem ci_a236_0 : e2_idl 1 (al_a236_0.set 2 (9, 0, 0)) = true := by decide +kernel
set_option maxRecDepth 1000000 in
theorem cj_a236_0 : e2_idh 1 8 h_a236_0 = true := by decide +kernel
theorem cs_a236 (hen : en_ok) (l : Launch) (hh : e2_hand_a l) : e2_smOk l 65 s_a236 := by
  refine e2_conG (H := 63) (n := 1) (C := evd_169) (S := S_a236) (I := I_a236) (fuel := 4000) hen ei_169 (e2_fa (cs_a235 hen l hh) e2_fz) (e2_fa ein_99 e2_fz) (by decide) co_a236 fun M d _ hC hcall p e R s m args below meth c Q D cA A ads r0 ha hl0 => ?_
  have L_0 : e2_gdM M p l e R s m args below meth c Q D cA A ads r0 25 al_a236_0 [] E_a236_0 h_a236_0 := by
    refine e2_indL (u := 1) (j := 2) (lo := 2147483648) (hi := 2147483708) (b := 1) (dd := 0) hl0 (by decide) rfl rfl (Or.inr ⟨rfl, rfl⟩) rfl ci_a236_0 cj_a236_0 ?_
    intro r_0 k_0 hk_0 hp_0 hs_0 hn_0
    have hl_0 : r_0.length ≤ 2 := hs_0.len rfl
    have ha_0 := ha.ext hp_0
    exact e2_fromM hen ha_0 hcall (e2_cutA_ok (e2_fa (fun al st E h hc => hn_0 al st E h hc) e2_fz)) (hC []) (X := e2x_169) ex2_169 25 ck_a236_0
  have EN_0 := e2_entL (u := 1) (j := 2) (lo := 2147483648) (hi := 2147483708) hl0 rfl rfl rfl ci_a236_0 cj_a236_0 L_0
  exact e2_from hen ha hcall (e2_cutA_ok (e2_fa (fun al st E h hc => EN_0 al st E h hc) e2_fz)) (hC []) (X := e2x_169) ex2_169 0 ck_a236_e
/-! a237 X9_will -/
def as_a237 : List ev_V := [(2, 0, 0), (11, 0, 4294967295), (11, 0, 4294967295)]
def E_a237 : e2_E := [(2147483648, 2147583648, 0, 0)]
noncomputable def f_a237 : ev_H := (an1130 : e2_Q8)
noncomputable def q_a237_0 : ev_H := (an1130 : e2_Q8)
noncomputable def rs_a237 : e2_Rs := [((11, 0, 4294967295), q_a237_0)]
noncomputable def s_a237 : e2_Sm := (139, as_a237, E_a237, f_a237, rs_a237)
noncomputable def S_a237 : List e2_Sm := [s_a236]
noncomputable def I_a237 : List e2_In := [(161, 2, e2x_161)]
set_option maxRecDepth 1000000 in
theorem ck_a237 : e2_run (e2_cal S_a237 I_a237 4000 1) (e2_fin rs_a237) e2x_139 (fun _ => false) (fun _ _ _ _ _ => false) 4000 (e2_seek e2x_139 0) (e2_al 3 as_a237) [] E_a237 f_a237 = true := by decide +kernel
set_option maxRecDepth 1000000 in
theorem co_a237 : e2_okSB E_a237.length as_a237 f_a237 rs_a237 = true := by decide +kernel
theorem cs_a237 (hen : en_ok) (l : Launch) (hh : e2_hand_a l) : e2_smOk l 67 s_a237 := e2_con0 (H := 65) (n := 1) (C := evd_139) (S := S_a237) (I := I_a237) (fuel := 4000) [] hen ei_139 (e2_fa (cs_a236 hen l hh) e2_fz) (e2_fa ein_161 e2_fz) (by decide) co_a237 ex2_139 ck_a237
/-! a238 X9_field -/
def as_a238 : List ev_V := [(2, 0, 0), (11, 0, 4294967295)]
def E_a238 : e2_E := [(2147483648, 2147583648, 0, 0)]
noncomputable def f_a238 : ev_H := (an1130 : e2_Q8)
noncomputable def q_a238_0 : ev_H := (an1130 : e2_Q8)
noncomputable def rs_a238 : e2_Rs := [((11, 0, 4294967295), q_a238_0)]
noncomputable def s_a238 : e2_Sm := (140, as_a238, E_a238, f_a238, rs_a238)
noncomputable def S_a238 : List e2_Sm := [s_a236]
noncomputable def I_a238 : List e2_In := []
set_option maxRecDepth 1000000 in
theorem ck_a238 : e2_run (e2_cal S_a238 I_a238 4000 0) (e2_fin rs_a238) e2x_140 (fun _ => false) (fun _ _ _ _ _ => false) 4000 (e2_seek e2x_140 0) (e2_al 2 as_a238) [] E_a238 f_a238 = true := by decide +kernel
set_option maxRecDepth 1000000 in
theorem co_a238 : e2_okSB E_a238.length as_a238 f_a238 rs_a238 = true := by decide +kernel
theorem cs_a238 (hen : en_ok) (l : Launch) (hh : e2_hand_a l) : e2_smOk l 66 s_a238 := e2_con0 (H := 65) (n := 0) (C := evd_140) (S := S_a238) (I := I_a238) (fuel := 4000) [] hen ei_140 (e2_fa (cs_a236 hen l hh) e2_fz) e2_fz (by decide) co_a238 ex2_140 ck_a238
/-! a239 X9_harm -/
def as_a239 : List ev_V := [(2, 0, 0)]
def E_a239 : e2_E := [(2147483648, 2147583648, 0, 0)]
noncomputable def f_a239 : ev_H := (an1030 : e2_Q8)
def an1131 : e2_Q8 := (an1029, an1024)
noncomputable def q_a239_0 : ev_H := (an1131 : e2_Q8)
noncomputable def rs_a239 : e2_Rs := [((11, 2147483648, 2147483649), q_a239_0)]
noncomputable def s_a239 : e2_Sm := (141, as_a239, E_a239, f_a239, rs_a239)
noncomputable def S_a239 : List e2_Sm := [s_a215, s_a225]
noncomputable def I_a239 : List e2_In := []
set_option maxRecDepth 1000000 in
theorem ck_a239 : e2_run (e2_cal S_a239 I_a239 4000 0) (e2_fin rs_a239) e2x_141 (fun _ => false) (fun _ _ _ _ _ => false) 4000 (e2_seek e2x_141 0) (e2_al 1 as_a239) [] E_a239 f_a239 = true := by decide +kernel
set_option maxRecDepth 1000000 in
theorem co_a239 : e2_okSB E_a239.length as_a239 f_a239 rs_a239 = true := by decide +kernel
theorem cs_a239 (hen : en_ok) (l : Launch) (hh : e2_hand_a l) : e2_smOk l 62 s_a239 := e2_con0 (H := 61) (n := 0) (C := evd_141) (S := S_a239) (I := I_a239) (fuel := 4000) [] hen ei_141 (e2_fa ((cs_a215 hen l).mono (by decide)) (e2_fa (cs_a225 hen l hh) e2_fz)) e2_fz (by decide) co_a239 ex2_141 ck_a239
/-! a240 X9_turn -/
def as_a240 : List ev_V := [(2, 0, 0), (11, 0, 4294967295), (11, 0, 4294967295)]
def E_a240 : e2_E := [(2147483648, 2147583648, 0, 0)]
def an1132 : e2_Q5 := (an963, an636)
def an1133 : e2_Q5 := (an538, an1073)
def an1134 : e2_Q6 := (an1132, an1133)
def an1135 : e2_Q7 := (an1134, an644)
def an1136 : e2_Q5 := (an291, an646)
def an1137 : e2_Q4 := (an364, an670)
def an1138 : e2_Q5 := (an1010, an1137)
def an1139 : e2_Q6 := (an1136, an1138)
def an1140 : e2_Q4 := (an408, an310)
def an1141 : e2_Q5 := (an1140, an1077)
def an1142 : e2_Q6 := (an1141, an662)
def an1143 : e2_Q7 := (an1139, an1142)
def an1144 : e2_Q8 := (an1135, an1143)
noncomputable def f_a240 : ev_H := (an1144 : e2_Q8)
noncomputable def q_a240_0 : ev_H := (an1144 : e2_Q8)
noncomputable def rs_a240 : e2_Rs := [((11, 2147483647, 2147483651), q_a240_0)]
noncomputable def s_a240 : e2_Sm := (142, as_a240, E_a240, f_a240, rs_a240)
noncomputable def S_a240 : List e2_Sm := [s_a173, s_a188]
noncomputable def I_a240 : List e2_In := [(63, 1, e2x_63), (69, 3, e2x_69), (161, 2, e2x_161)]
set_option maxRecDepth 1000000 in
theorem ck_a240 : e2_run (e2_cal S_a240 I_a240 4000 1) (e2_fin rs_a240) e2x_142 (fun _ => false) (fun _ _ _ _ _ => false) 4000 (e2_seek e2x_142 0) (e2_al 3 as_a240) [] E_a240 f_a240 = true := by decide +kernel
set_option maxRecDepth 1000000 in
theorem co_a240 : e2_okSB E_a240.length as_a240 f_a240 rs_a240 = true := by decide +kernel
theorem cs_a240 (hen : en_ok) (l : Launch) (hh : e2_hand_a l) : e2_smOk l 71 s_a240 := e2_con0 (H := 69) (n := 1) (C := evd_142) (S := S_a240) (I := I_a240) (fuel := 4000) [] hen ei_142 (e2_fa ((cs_a173 hen l).mono (by decide)) (e2_fa (cs_a188 hen l hh) e2_fz)) (e2_fa ein_63 (e2_fa ein_69 (e2_fa ein_161 e2_fz))) (by decide) co_a240 ex2_142 ck_a240
