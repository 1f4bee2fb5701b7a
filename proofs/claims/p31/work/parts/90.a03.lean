/-! CONTRACTS a, printed by a program -/
/-! a212 X4_placeFrom -/
def as_a212 : List ev_V := [(2, 59, 0), (0, 1, 0), (11, 2147483649, 2147483668), (11, 0, 4294967295)]
def E_a212 : e2_E := [(2147483648, 2147583648, 0, 0), (2147483652, 2147483668, 1, 0)]
def ac187 : ev_C := (4, [(2, 65, 0), (2, 63, 0), (2, 1, 0), (11, 0, 4294967295), (2, 62, 0), (11, 0, 4294967295), (11, 2147483648, 2147483668), (2, 60, 0), (11, 2147483648, 2147483668), (11, 0, 4294967295), (11, 0, 4294967295), (2, 61, 0), (2, 64, 0), (0, 1, 0)])
def an951 : e2_Q1 := (ac187, ac3)
def an952 : e2_Q2 := (an951, an216)
def an953 : e2_Q3 := (an214, an952)
def an954 : e2_Q4 := (an414, an953)
def an955 : e2_Q5 := (an343, an954)
def an956 : e2_Q6 := (an955, an435)
def an957 : e2_Q7 := (an431, an956)
def an958 : e2_Q8 := (an404, an957)
noncomputable def f_a212 : ev_H := (an958 : e2_Q8)
noncomputable def q_a212_0 : ev_H := (an958 : e2_Q8)
noncomputable def rs_a212 : e2_Rs := [((11, 2147483648, 2147483649), q_a212_0)]
noncomputable def s_a212 : e2_Sm := (81, as_a212, E_a212, f_a212, rs_a212)
noncomputable def S_a212 : List e2_Sm := [s_a7]
noncomputable def I_a212 : List e2_In := []
set_option maxRecDepth 1000000 in
theorem ck_a212 : e2_run (e2_cal S_a212 I_a212 4000 0) (e2_fin rs_a212) e2x_81 (fun _ => false) (fun _ _ _ _ _ => false) 4000 (e2_seek e2x_81 0) (e2_al 7 as_a212) [] E_a212 f_a212 = true := by decide +kernel
set_option maxRecDepth 1000000 in
theorem co_a212 : e2_okSB E_a212.length as_a212 f_a212 rs_a212 = true := by decide +kernel
theorem cs_a212 (hen : en_ok) (l : Launch) (hh : e2_hand_a l) : e2_smOk l 61 s_a212 := e2_con0 (H := 60) (n := 0) (C := evd_81) (S := S_a212) (I := I_a212) (fuel := 4000) [60, 62] hen ei_81 (e2_fa (hh _ hm_a7) e2_fz) e2_fz (by decide) co_a212 ex2_81 ck_a212
/-! a213 X4_placeFrom -/
def as_a213 : List ev_V := [(2, 59, 0), (0, 1, 0), (11, 2147483648, 2147483668), (11, 0, 4294967295)]
def E_a213 : e2_E := [(2147483648, 2147583648, 0, 0), (2147483652, 2147483668, 1, 0)]
def an959 : e2_Q6 := (an955, an418)
def an960 : e2_Q7 := (an412, an959)
def an961 : e2_Q8 := (an404, an960)
noncomputable def f_a213 : ev_H := (an961 : e2_Q8)
noncomputable def q_a213_0 : ev_H := (an958 : e2_Q8)
noncomputable def q_a213_1 : ev_H := (an961 : e2_Q8)
noncomputable def rs_a213 : e2_Rs := [((11, 2147483648, 2147483649), q_a213_0), ((0, 0, 0), q_a213_1)]
noncomputable def s_a213 : e2_Sm := (81, as_a213, E_a213, f_a213, rs_a213)
noncomputable def S_a213 : List e2_Sm := [s_a5]
noncomputable def I_a213 : List e2_In := []
set_option maxRecDepth 1000000 in
theorem ck_a213 : e2_run (e2_cal S_a213 I_a213 4000 0) (e2_fin rs_a213) e2x_81 (fun _ => false) (fun _ _ _ _ _ => false) 4000 (e2_seek e2x_81 0) (e2_al 7 as_a213) [] E_a213 f_a213 = true := by decide +kernel
set_option maxRecDepth 1000000 in
theorem co_a213 : e2_okSB E_a213.length as_a213 f_a213 rs_a213 = true := by decide +kernel
theorem cs_a213 (hen : en_ok) (l : Launch) (hh : e2_hand_a l) : e2_smOk l 61 s_a213 := e2_con0 (H := 60) (n := 0) (C := evd_81) (S := S_a213) (I := I_a213) (fuel := 4000) [60, 62] hen ei_81 (e2_fa (hh _ hm_a5) e2_fz) e2_fz (by decide) co_a213 ex2_81 ck_a213
/-! a214 X4_placeFrom -/
def as_a214 : List ev_V := [(2, 59, 0), (0, 0, 0), (0, 0, 0), (0, 0, 0)]
def E_a214 : e2_E := [(2147483648, 2147583648, 0, 0), (2147483652, 2147483668, 1, 0)]
def ac188 : ev_C := (50, [(11, 2147483648, 2147483655), (0, 4294967295, 0), (11, 2147483647, 2147483655)])
def an962 : e2_Q1 := (ac188, ac3)
def an963 : e2_Q2 := (an0, an962)
def an964 : e2_Q3 := (an963, an5)
def an965 : e2_Q4 := (an964, an13)
def an966 : e2_Q5 := (an965, an379)
def an967 : e2_Q6 := (an966, an910)
def an968 : e2_Q7 := (an967, an403)
def an969 : e2_Q8 := (an968, an960)
noncomputable def f_a214 : ev_H := (an969 : e2_Q8)
def an970 : e2_Q8 := (an968, an957)
noncomputable def q_a214_0 : ev_H := (an970 : e2_Q8)
noncomputable def q_a214_1 : ev_H := (an969 : e2_Q8)
noncomputable def rs_a214 : e2_Rs := [((11, 2147483648, 2147483649), q_a214_0), ((0, 0, 0), q_a214_1)]
noncomputable def s_a214 : e2_Sm := (81, as_a214, E_a214, f_a214, rs_a214)
noncomputable def S_a214 : List e2_Sm := [s_a212, s_a213]
noncomputable def I_a214 : List e2_In := [(64, 2, e2x_64)]
set_option maxRecDepth 1000000 in
theorem co_a214 : e2_okSB E_a214.length as_a214 f_a214 rs_a214 = true := by decide +kernel
def al_a214_0 : List ev_V := [(2, 59, 0), (0, 0, 0), (0, 0, 0), (0, 0, 0), (11, 2147483648, 2147483655), (1, 2, 4294967296), (11, 2147483648, 2147483668)]
def E_a214_0 : e2_E := [(2147483648, 2147583648, 0, 0), (2147483652, 2147483668, 1, 0), (2147483649, 2147483669, 2, 0)]
noncomputable def h_a214_0 : ev_H := (an970 : e2_Q8)
def al_a214_1 : List ev_V := [(2, 59, 0), (0, 0, 0), (0, 0, 0), (0, 0, 0), (11, 2147483648, 2147483655), (1, 2, 4294967296), (9, 0, 0)]
def E_a214_1 : e2_E := [(2147483648, 2147583648, 0, 0), (2147483652, 2147483668, 1, 0), (2147483648, 2147483669, 2, 0)]
noncomputable def h_a214_1 : ev_H := (an969 : e2_Q8)
noncomputable def cl_a214_e : List (Nat × e2_S) := [(51, e2_cutL (al_a214_1.set 5 (11, 2147483648, 2147483669)) 2 (E_a214_1.take 2) h_a214_1)]
set_option maxRecDepth 1000000 in
theorem ck_a214_e : e2_run (e2_cal S_a214 I_a214 4000 1) (e2_fin rs_a214) e2x_81 (e2_bpL cl_a214_e) (e2_cutA cl_a214_e) 4000 (e2_seek e2x_81 0) (e2_al 7 as_a214) [] E_a214 f_a214 = true := by decide +kernel
noncomputable def cl_a214_0 : List (Nat × e2_S) := [(51, e2_cutL (al_a214_0.set 5 (13, 10, 2147483669)) 2 (E_a214_0.take 2) h_a214_0)]
set_option maxRecDepth 1000000 in
theorem ck_a214_0 : e2_runM (e2_cal S_a214 I_a214 4000 1) (e2_fin rs_a214) e2x_81 (e2_bpL cl_a214_0) (e2_cutA cl_a214_0) 4000 (e2_seek e2x_81 51) al_a214_0 [] E_a214_0 h_a214_0 = true := by decide +kernel
set_option maxRecDepth 1000000 in
theorem ci_a214_0 : e2_idl 2 (al_a214_0.set 5 (9, 0, 0)) = true := by decide +kernel
set_option maxRecDepth 1000000 in
theorem cj_a214_0 : e2_idh 2 8 h_a214_0 = true := by decide +kernel
noncomputable def cl_a214_1 : List (Nat × e2_S) := [(51, e2_cutL (al_a214_0.set 5 (11, 2147483649, 2147483669)) 2 (E_a214_0.take 2) h_a214_0),
  (51, e2_cutL (al_a214_1.set 5 (13, 10, 2147483669)) 2 (E_a214_1.take 2) h_a214_1)]
set_option maxRecDepth 1000000 in
theorem ck_a214_1 : e2_runM (e2_cal S_a214 I_a214 4000 1) (e2_fin rs_a214) e2x_81 (e2_bpL cl_a214_1) (e2_cutA cl_a214_1) 4000 (e2_seek e2x_81 51) al_a214_1 [] E_a214_1 h_a214_1 = true := by decide +kernel
set_option maxRecDepth 1000000 in
theorem ci_a214_1 : e2_idl 2 (al_a214_1.set 5 (9, 0, 0)) = true := by decide +kernel
set_option maxRecDepth 1000000 in
theorem cj_a214_1 : e2_idh 2 8 h_a214_1 = true := by decide +kernel
theorem cs_a214 (hen : en_ok) (l : Launch) (hh : e2_hand_a l) : e2_smOk l 63 s_a214 := by
  refine e2_conG (H := 61) (n := 1) (C := evd_81) (S := S_a214) (I := I_a214) (fuel := 4000) hen ei_81 (e2_fa (cs_a212 hen l hh) (e2_fa (cs_a213 hen l hh) e2_fz)) (e2_fa ein_64 e2_fz) (by decide) co_a214 fun M d _ hC hcall p e R s m args below meth c Q D cA A ads r0 ha hl0 => ?_
  have L_0 : e2_gdM M p l e R s m args below meth c Q D cA A ads r0 51 al_a214_0 [] E_a214_0 h_a214_0 := by
    refine e2_indL (u := 2) (j := 5) (lo := 2147483649) (hi := 2147483669) (b := 2) (dd := 0) hl0 (by decide) rfl rfl (Or.inr ⟨rfl, rfl⟩) rfl ci_a214_0 cj_a214_0 ?_
    intro r_0 k_0 hk_0 hp_0 hs_0 hn_0
    have hl_0 : r_0.length ≤ 3 := hs_0.len rfl
    have ha_0 := ha.ext hp_0
    exact e2_fromM hen ha_0 hcall (e2_cutA_ok (e2_fa (fun al st E h hc => hn_0 al st E h hc) e2_fz)) (hC [60, 62]) (X := e2x_81) ex2_81 51 ck_a214_0
  have EN_0 := e2_entL (u := 2) (j := 5) (lo := 2147483649) (hi := 2147483669) hl0 rfl rfl rfl ci_a214_0 cj_a214_0 L_0
  have L_1 : e2_gdM M p l e R s m args below meth c Q D cA A ads r0 51 al_a214_1 [] E_a214_1 h_a214_1 := by
    refine e2_indL (u := 2) (j := 5) (lo := 2147483648) (hi := 2147483669) (b := 2) (dd := 0) hl0 (by decide) rfl rfl (Or.inr ⟨rfl, rfl⟩) rfl ci_a214_1 cj_a214_1 ?_
    intro r_1 k_1 hk_1 hp_1 hs_1 hn_1
    have hl_1 : r_1.length ≤ 3 := hs_1.len rfl
    have ha_1 := ha.ext hp_1
    exact e2_fromM hen ha_1 hcall (e2_cutA_ok (e2_fa (fun al st E h hc => (EN_0 al st E h hc).ext hp_1) (e2_fa (fun al st E h hc => hn_1 al st E h hc) e2_fz))) (hC [60, 62]) (X := e2x_81) ex2_81 51 ck_a214_1
  have EN_1 := e2_entL (u := 2) (j := 5) (lo := 2147483648) (hi := 2147483669) hl0 rfl rfl rfl ci_a214_1 cj_a214_1 L_1
  exact e2_from hen ha hcall (e2_cutA_ok (e2_fa (fun al st E h hc => EN_1 al st E h hc) e2_fz)) (hC [60, 62]) (X := e2x_81) ex2_81 0 ck_a214_e
/-! a215 X4_placeFrom -/
def as_a215 : List ev_V := [(2, 59, 0), (0, 2, 0), (11, 2147483649, 2147483668), (11, 0, 4294967295)]
def E_a215 : e2_E := [(2147483648, 2147583648, 0, 0), (2147483652, 2147483668, 1, 0)]
def ac189 : ev_C := (4, [(2, 65, 0), (2, 63, 0), (2, 1, 0), (11, 0, 4294967295), (2, 62, 0), (11, 0, 4294967295), (11, 2147483648, 2147483668), (2, 60, 0), (11, 2147483648, 2147483668), (11, 0, 4294967295), (11, 0, 4294967295), (2, 61, 0), (2, 64, 0), (0, 2, 0)])
def an971 : e2_Q1 := (ac189, ac3)
def an972 : e2_Q2 := (an971, an216)
def an973 : e2_Q3 := (an214, an972)
def an974 : e2_Q4 := (an414, an973)
def an975 : e2_Q5 := (an343, an974)
def an976 : e2_Q6 := (an975, an435)
def an977 : e2_Q7 := (an431, an976)
def an978 : e2_Q8 := (an404, an977)
noncomputable def f_a215 : ev_H := (an978 : e2_Q8)
noncomputable def q_a215_0 : ev_H := (an978 : e2_Q8)
noncomputable def rs_a215 : e2_Rs := [((11, 2147483648, 2147483649), q_a215_0)]
noncomputable def s_a215 : e2_Sm := (81, as_a215, E_a215, f_a215, rs_a215)
noncomputable def S_a215 : List e2_Sm := [s_a7]
noncomputable def I_a215 : List e2_In := []
set_option maxRecDepth 1000000 in
theorem ck_a215 : e2_run (e2_cal S_a215 I_a215 4000 0) (e2_fin rs_a215) e2x_81 (fun _ => false) (fun _ _ _ _ _ => false) 4000 (e2_seek e2x_81 0) (e2_al 7 as_a215) [] E_a215 f_a215 = true := by decide +kernel
set_option maxRecDepth 1000000 in
theorem co_a215 : e2_okSB E_a215.length as_a215 f_a215 rs_a215 = true := by decide +kernel
theorem cs_a215 (hen : en_ok) (l : Launch) (hh : e2_hand_a l) : e2_smOk l 61 s_a215 := e2_con0 (H := 60) (n := 0) (C := evd_81) (S := S_a215) (I := I_a215) (fuel := 4000) [60, 62] hen ei_81 (e2_fa (hh _ hm_a7) e2_fz) e2_fz (by decide) co_a215 ex2_81 ck_a215
/-! a216 X4_placeFrom -/
def as_a216 : List ev_V := [(2, 59, 0), (0, 1, 0), (11, 2147483649, 2147483668), (11, 0, 4294967295)]
def E_a216 : e2_E := [(2147483648, 2147583648, 0, 0), (2147483652, 2147483668, 1, 0)]
def ac190 : ev_C := (50, [(11, 2147483648, 2147483655), (11, 2147483648, 2147483655), (0, 4294967295, 0)])
def an979 : e2_Q1 := (ac190, ac3)
def an980 : e2_Q2 := (an0, an979)
def an981 : e2_Q3 := (an980, an5)
def an982 : e2_Q4 := (an981, an13)
def an983 : e2_Q5 := (an982, an379)
def an984 : e2_Q6 := (an983, an910)
def an985 : e2_Q7 := (an984, an403)
def an986 : e2_Q8 := (an985, an977)
noncomputable def f_a216 : ev_H := (an986 : e2_Q8)
noncomputable def q_a216_0 : ev_H := (an986 : e2_Q8)
noncomputable def rs_a216 : e2_Rs := [((11, 2147483648, 2147483649), q_a216_0)]
noncomputable def s_a216 : e2_Sm := (81, as_a216, E_a216, f_a216, rs_a216)
noncomputable def S_a216 : List e2_Sm := [s_a215]
noncomputable def I_a216 : List e2_In := [(64, 2, e2x_64)]
set_option maxRecDepth 1000000 in
theorem co_a216 : e2_okSB E_a216.length as_a216 f_a216 rs_a216 = true := by decide +kernel
def al_a216_0 : List ev_V := [(2, 59, 0), (0, 1, 0), (11, 2147483649, 2147483668), (11, 0, 4294967295), (11, 2147483648, 2147483655), (1, 2, 4294967296), (9, 0, 0)]
def E_a216_0 : e2_E := [(2147483648, 2147583648, 0, 0), (2147483652, 2147483668, 1, 0), (2147483649, 2147483669, 2, 0)]
noncomputable def h_a216_0 : ev_H := (an986 : e2_Q8)
noncomputable def cl_a216_e : List (Nat × e2_S) := [(51, e2_cutL (al_a216_0.set 5 (11, 2147483649, 2147483669)) 2 (E_a216_0.take 2) h_a216_0)]
set_option maxRecDepth 1000000 in
theorem ck_a216_e : e2_run (e2_cal S_a216 I_a216 4000 1) (e2_fin rs_a216) e2x_81 (e2_bpL cl_a216_e) (e2_cutA cl_a216_e) 4000 (e2_seek e2x_81 0) (e2_al 7 as_a216) [] E_a216 f_a216 = true := by decide +kernel
noncomputable def cl_a216_0 : List (Nat × e2_S) := [(51, e2_cutL (al_a216_0.set 5 (13, 10, 2147483669)) 2 (E_a216_0.take 2) h_a216_0)]
set_option maxRecDepth 1000000 in
theorem ck_a216_0 : e2_runM (e2_cal S_a216 I_a216 4000 1) (e2_fin rs_a216) e2x_81 (e2_bpL cl_a216_0) (e2_cutA cl_a216_0) 4000 (e2_seek e2x_81 51) al_a216_0 [] E_a216_0 h_a216_0 = true := by decide +kernel
set_option maxRecDepth 1000000 in
theorem ci_a216_0 : e2_idl 2 (al_a216_0.set 5 (9, 0, 0)) = true := by decide +kernel
set_option maxRecDepth 1000000 in
theorem cj_a216_0 : e2_idh 2 8 h_a216_0 = true := by decide +kernel
theorem cs_a216 (hen : en_ok) (l : Launch) (hh : e2_hand_a l) : e2_smOk l 63 s_a216 := by
  refine e2_conG (H := 61) (n := 1) (C := evd_81) (S := S_a216) (I := I_a216) (fuel := 4000) hen ei_81 (e2_fa (cs_a215 hen l hh) e2_fz) (e2_fa ein_64 e2_fz) (by decide) co_a216 fun M d _ hC hcall p e R s m args below meth c Q D cA A ads r0 ha hl0 => ?_
  have L_0 : e2_gdM M p l e R s m args below meth c Q D cA A ads r0 51 al_a216_0 [] E_a216_0 h_a216_0 := by
    refine e2_indL (u := 2) (j := 5) (lo := 2147483649) (hi := 2147483669) (b := 2) (dd := 0) hl0 (by decide) rfl rfl (Or.inr ⟨rfl, rfl⟩) rfl ci_a216_0 cj_a216_0 ?_
    intro r_0 k_0 hk_0 hp_0 hs_0 hn_0
    have hl_0 : r_0.length ≤ 3 := hs_0.len rfl
    have ha_0 := ha.ext hp_0
    exact e2_fromM hen ha_0 hcall (e2_cutA_ok (e2_fa (fun al st E h hc => hn_0 al st E h hc) e2_fz)) (hC [60, 62]) (X := e2x_81) ex2_81 51 ck_a216_0
  have EN_0 := e2_entL (u := 2) (j := 5) (lo := 2147483649) (hi := 2147483669) hl0 rfl rfl rfl ci_a216_0 cj_a216_0 L_0
  exact e2_from hen ha hcall (e2_cutA_ok (e2_fa (fun al st E h hc => EN_0 al st E h hc) e2_fz)) (hC [60, 62]) (X := e2x_81) ex2_81 0 ck_a216_e
/-! a217 X4_placeFrom -/
def as_a217 : List ev_V := [(2, 59, 0), (0, 2, 0), (11, 2147483648, 2147483668), (11, 0, 4294967295)]
def E_a217 : e2_E := [(2147483648, 2147583648, 0, 0), (2147483652, 2147483668, 1, 0)]
def an987 : e2_Q6 := (an975, an418)
def an988 : e2_Q7 := (an412, an987)
def an989 : e2_Q8 := (an404, an988)
noncomputable def f_a217 : ev_H := (an989 : e2_Q8)
noncomputable def q_a217_0 : ev_H := (an978 : e2_Q8)
noncomputable def q_a217_1 : ev_H := (an989 : e2_Q8)
noncomputable def rs_a217 : e2_Rs := [((11, 2147483648, 2147483649), q_a217_0), ((0, 0, 0), q_a217_1)]
noncomputable def s_a217 : e2_Sm := (81, as_a217, E_a217, f_a217, rs_a217)
noncomputable def S_a217 : List e2_Sm := [s_a5]
noncomputable def I_a217 : List e2_In := []
set_option maxRecDepth 1000000 in
theorem ck_a217 : e2_run (e2_cal S_a217 I_a217 4000 0) (e2_fin rs_a217) e2x_81 (fun _ => false) (fun _ _ _ _ _ => false) 4000 (e2_seek e2x_81 0) (e2_al 7 as_a217) [] E_a217 f_a217 = true := by decide +kernel
set_option maxRecDepth 1000000 in
theorem co_a217 : e2_okSB E_a217.length as_a217 f_a217 rs_a217 = true := by decide +kernel
theorem cs_a217 (hen : en_ok) (l : Launch) (hh : e2_hand_a l) : e2_smOk l 61 s_a217 := e2_con0 (H := 60) (n := 0) (C := evd_81) (S := S_a217) (I := I_a217) (fuel := 4000) [60, 62] hen ei_81 (e2_fa (hh _ hm_a5) e2_fz) e2_fz (by decide) co_a217 ex2_81 ck_a217
/-! a218 X4_placeFrom -/
def as_a218 : List ev_V := [(2, 59, 0), (0, 1, 0), (11, 2147483648, 2147483668), (11, 0, 4294967295)]
def E_a218 : e2_E := [(2147483648, 2147583648, 0, 0), (2147483652, 2147483668, 1, 0)]
def an990 : e2_Q8 := (an985, an988)
noncomputable def f_a218 : ev_H := (an990 : e2_Q8)
noncomputable def q_a218_0 : ev_H := (an986 : e2_Q8)
noncomputable def q_a218_1 : ev_H := (an990 : e2_Q8)
noncomputable def rs_a218 : e2_Rs := [((11, 2147483648, 2147483649), q_a218_0), ((0, 0, 0), q_a218_1)]
noncomputable def s_a218 : e2_Sm := (81, as_a218, E_a218, f_a218, rs_a218)
noncomputable def S_a218 : List e2_Sm := [s_a215, s_a217]
noncomputable def I_a218 : List e2_In := [(64, 2, e2x_64)]
set_option maxRecDepth 1000000 in
theorem co_a218 : e2_okSB E_a218.length as_a218 f_a218 rs_a218 = true := by decide +kernel
def al_a218_0 : List ev_V := [(2, 59, 0), (0, 1, 0), (11, 2147483648, 2147483668), (11, 0, 4294967295), (11, 2147483648, 2147483655), (1, 2, 4294967296), (11, 2147483648, 2147483668)]
def E_a218_0 : e2_E := [(2147483648, 2147583648, 0, 0), (2147483652, 2147483668, 1, 0), (2147483649, 2147483669, 2, 0)]
noncomputable def h_a218_0 : ev_H := (an986 : e2_Q8)
def al_a218_1 : List ev_V := [(2, 59, 0), (0, 1, 0), (11, 2147483648, 2147483668), (11, 0, 4294967295), (11, 2147483648, 2147483655), (1, 2, 4294967296), (9, 0, 0)]
def E_a218_1 : e2_E := [(2147483648, 2147583648, 0, 0), (2147483652, 2147483668, 1, 0), (2147483648, 2147483669, 2, 0)]
noncomputable def h_a218_1 : ev_H := (an990 : e2_Q8)
noncomputable def cl_a218_e : List (Nat × e2_S) := [(51, e2_cutL (al_a218_1.set 5 (11, 2147483648, 2147483669)) 2 (E_a218_1.take 2) h_a218_1)]
set_option maxRecDepth 1000000 in
theorem ck_a218_e : e2_run (e2_cal S_a218 I_a218 4000 1) (e2_fin rs_a218) e2x_81 (e2_bpL cl_a218_e) (e2_cutA cl_a218_e) 4000 (e2_seek e2x_81 0) (e2_al 7 as_a218) [] E_a218 f_a218 = true := by decide +kernel
noncomputable def cl_a218_0 : List (Nat × e2_S) := [(51, e2_cutL (al_a218_0.set 5 (13, 10, 2147483669)) 2 (E_a218_0.take 2) h_a218_0)]
set_option maxRecDepth 1000000 in
theorem ck_a218_0 : e2_runM (e2_cal S_a218 I_a218 4000 1) (e2_fin rs_a218) e2x_81 (e2_bpL cl_a218_0) (e2_cutA cl_a218_0) 4000 (e2_seek e2x_81 51) al_a218_0 [] E_a218_0 h_a218_0 = true := by decide +kernel
set_option maxRecDepth 1000000 in
theorem ci_a218_0 : e2_idl 2 (al_a218_0.set 5 (9, 0, 0)) = true := by decide +kernel
set_option maxRecDepth 1000000 in
theorem cj_a218_0 : e2_idh 2 8 h_a218_0 = true := by decide +kernel
noncomputable def cl_a218_1 : List (Nat × e2_S) := [(51, e2_cutL (al_a218_0.set 5 (11, 2147483649, 2147483669)) 2 (E_a218_0.take 2) h_a218_0),
  (51, e2_cutL (al_a218_1.set 5 (13, 10, 2147483669)) 2 (E_a218_1.take 2) h_a218_1)]
set_option maxRecDepth 1000000 in
theorem ck_a218_1 : e2_runM (e2_cal S_a218 I_a218 4000 1) (e2_fin rs_a218) e2x_81 (e2_bpL cl_a218_1) (e2_cutA cl_a218_1) 4000 (e2_seek e2x_81 51) al_a218_1 [] E_a218_1 h_a218_1 = true := by decide +kernel
set_option maxRecDepth 1000000 in
theorem ci_a218_1 : e2_idl 2 (al_a218_1.set 5 (9, 0, 0)) = true := by decide +kernel
set_option maxRecDepth 1000000 in
theorem cj_a218_1 : e2_idh 2 8 h_a218_1 = true := by decide +kernel
theorem cs_a218 (hen : en_ok) (l : Launch) (hh : e2_hand_a l) : e2_smOk l 63 s_a218 := by
  refine e2_conG (H := 61) (n := 1) (C := evd_81) (S := S_a218) (I := I_a218) (fuel := 4000) hen ei_81 (e2_fa (cs_a215 hen l hh) (e2_fa (cs_a217 hen l hh) e2_fz)) (e2_fa ein_64 e2_fz) (by decide) co_a218 fun M d _ hC hcall p e R s m args below meth c Q D cA A ads r0 ha hl0 => ?_
  have L_0 : e2_gdM M p l e R s m args below meth c Q D cA A ads r0 51 al_a218_0 [] E_a218_0 h_a218_0 := by
    refine e2_indL (u := 2) (j := 5) (lo := 2147483649) (hi := 2147483669) (b := 2) (dd := 0) hl0 (by decide) rfl rfl (Or.inr ⟨rfl, rfl⟩) rfl ci_a218_0 cj_a218_0 ?_
    intro r_0 k_0 hk_0 hp_0 hs_0 hn_0
    have hl_0 : r_0.length ≤ 3 := hs_0.len rfl
    have ha_0 := ha.ext hp_0
    exact e2_fromM hen ha_0 hcall (e2_cutA_ok (e2_fa (fun al st E h hc => hn_0 al st E h hc) e2_fz)) (hC [60, 62]) (X := e2x_81) ex2_81 51 ck_a218_0
  have EN_0 := e2_entL (u := 2) (j := 5) (lo := 2147483649) (hi := 2147483669) hl0 rfl rfl rfl ci_a218_0 cj_a218_0 L_0
  have L_1 : e2_gdM M p l e R s m args below meth c Q D cA A ads r0 51 al_a218_1 [] E_a218_1 h_a218_1 := by
    refine e2_indL (u := 2) (j := 5) (lo := 2147483648) (hi := 2147483669) (b := 2) (dd := 0) hl0 (by decide) rfl rfl (Or.inr ⟨rfl, rfl⟩) rfl ci_a218_1 cj_a218_1 ?_
    intro r_1 k_1 hk_1 hp_1 hs_1 hn_1
    have hl_1 : r_1.length ≤ 3 := hs_1.len rfl
    have ha_1 := ha.ext hp_1
    exact e2_fromM hen ha_1 hcall (e2_cutA_ok (e2_fa (fun al st E h hc => (EN_0 al st E h hc).ext hp_1) (e2_fa (fun al st E h hc => hn_1 al st E h hc) e2_fz))) (hC [60, 62]) (X := e2x_81) ex2_81 51 ck_a218_1
  have EN_1 := e2_entL (u := 2) (j := 5) (lo := 2147483648) (hi := 2147483669) hl0 rfl rfl rfl ci_a218_1 cj_a218_1 L_1
  exact e2_from hen ha hcall (e2_cutA_ok (e2_fa (fun al st E h hc => EN_1 al st E h hc) e2_fz)) (hC [60, 62]) (X := e2x_81) ex2_81 0 ck_a218_e
/-! a219 X4_placeFrom -/
def as_a219 : List ev_V := [(2, 59, 0), (0, 0, 0), (0, 0, 0), (0, 0, 0)]
def E_a219 : e2_E := [(2147483648, 2147583648, 0, 0), (2147483652, 2147483668, 1, 0)]
noncomputable def f_a219 : ev_H := (an990 : e2_Q8)
noncomputable def q_a219_0 : ev_H := (an986 : e2_Q8)
noncomputable def q_a219_1 : ev_H := (an990 : e2_Q8)
noncomputable def rs_a219 : e2_Rs := [((11, 2147483648, 2147483649), q_a219_0), ((0, 0, 0), q_a219_1)]
noncomputable def s_a219 : e2_Sm := (81, as_a219, E_a219, f_a219, rs_a219)
noncomputable def S_a219 : List e2_Sm := [s_a216, s_a218]
noncomputable def I_a219 : List e2_In := [(64, 2, e2x_64)]
set_option maxRecDepth 1000000 in
theorem co_a219 : e2_okSB E_a219.length as_a219 f_a219 rs_a219 = true := by decide +kernel
def al_a219_0 : List ev_V := [(2, 59, 0), (0, 0, 0), (0, 0, 0), (0, 0, 0), (11, 2147483648, 2147483655), (1, 2, 4294967296), (11, 2147483648, 2147483668)]
def E_a219_0 : e2_E := [(2147483648, 2147583648, 0, 0), (2147483652, 2147483668, 1, 0), (2147483649, 2147483669, 2, 0)]
noncomputable def h_a219_0 : ev_H := (an986 : e2_Q8)
def al_a219_1 : List ev_V := [(2, 59, 0), (0, 0, 0), (0, 0, 0), (0, 0, 0), (11, 2147483648, 2147483655), (1, 2, 4294967296), (9, 0, 0)]
def E_a219_1 : e2_E := [(2147483648, 2147583648, 0, 0), (2147483652, 2147483668, 1, 0), (2147483648, 2147483669, 2, 0)]
noncomputable def h_a219_1 : ev_H := (an990 : e2_Q8)
noncomputable def cl_a219_e : List (Nat × e2_S) := [(51, e2_cutL (al_a219_1.set 5 (11, 2147483648, 2147483669)) 2 (E_a219_1.take 2) h_a219_1)]
set_option maxRecDepth 1000000 in
theorem ck_a219_e : e2_run (e2_cal S_a219 I_a219 4000 1) (e2_fin rs_a219) e2x_81 (e2_bpL cl_a219_e) (e2_cutA cl_a219_e) 4000 (e2_seek e2x_81 0) (e2_al 7 as_a219) [] E_a219 f_a219 = true := by decide +kernel
noncomputable def cl_a219_0 : List (Nat × e2_S) := [(51, e2_cutL (al_a219_0.set 5 (13, 10, 2147483669)) 2 (E_a219_0.take 2) h_a219_0)]
set_option maxRecDepth 1000000 in
theorem ck_a219_0 : e2_runM (e2_cal S_a219 I_a219 4000 1) (e2_fin rs_a219) e2x_81 (e2_bpL cl_a219_0) (e2_cutA cl_a219_0) 4000 (e2_seek e2x_81 51) al_a219_0 [] E_a219_0 h_a219_0 = true := by decide +kernel
set_option maxRecDepth 1000000 in
theorem ci_a219_0 : e2_idl 2 (al_a219_0.set 5 (9, 0, 0)) = true := by decide +kernel
set_option maxRecDepth 1000000 in
theorem cj_a219_0 : e2_idh 2 8 h_a219_0 = true := by decide +kernel
noncomputable def cl_a219_1 : List (Nat × e2_S) := [(51, e2_cutL (al_a219_0.set 5 (11, 2147483649, 2147483669)) 2 (E_a219_0.take 2) h_a219_0),
  (51, e2_cutL (al_a219_1.set 5 (13, 10, 2147483669)) 2 (E_a219_1.take 2) h_a219_1)]
set_option maxRecDepth 1000000 in
theorem ck_a219_1 : e2_runM (e2_cal S_a219 I_a219 4000 1) (e2_fin rs_a219) e2x_81 (e2_bpL cl_a219_1) (e2_cutA cl_a219_1) 4000 (e2_seek e2x_81 51) al_a219_1 [] E_a219_1 h_a219_1 = true := by decide +kernel
set_option maxRecDepth 1000000 in
theorem ci_a219_1 : e2_idl 2 (al_a219_1.set 5 (9, 0, 0)) = true := by decide +kernel
set_option maxRecDepth 1000000 in
theorem cj_a219_1 : e2_idh 2 8 h_a219_1 = true := by decide +kernel
theorem cs_a219 (hen : en_ok) (l : Launch) (hh : e2_hand_a l) : e2_smOk l 65 s_a219 := by
  refine e2_conG (H := 63) (n := 1) (C := evd_81) (S := S_a219) (I := I_a219) (fuel := 4000) hen ei_81 (e2_fa (cs_a216 hen l hh) (e2_fa (cs_a218 hen l hh) e2_fz)) (e2_fa ein_64 e2_fz) (by decide) co_a219 fun M d _ hC hcall p e R s m args below meth c Q D cA A ads r0 ha hl0 => ?_
  have L_0 : e2_gdM M p l e R s m args below meth c Q D cA A ads r0 51 al_a219_0 [] E_a219_0 h_a219_0 := by
    refine e2_indL (u := 2) (j := 5) (lo := 2147483649) (hi := 2147483669) (b := 2) (dd := 0) hl0 (by decide) rfl rfl (Or.inr ⟨rfl, rfl⟩) rfl ci_a219_0 cj_a219_0 ?_
    intro r_0 k_0 hk_0 hp_0 hs_0 hn_0
    have hl_0 : r_0.length ≤ 3 := hs_0.len rfl
    have ha_0 := ha.ext hp_0
    exact e2_fromM hen ha_0 hcall (e2_cutA_ok (e2_fa (fun al st E h hc => hn_0 al st E h hc) e2_fz)) (hC [60, 62]) (X := e2x_81) ex2_81 51 ck_a219_0
  have EN_0 := e2_entL (u := 2) (j := 5) (lo := 2147483649) (hi := 2147483669) hl0 rfl rfl rfl ci_a219_0 cj_a219_0 L_0
  have L_1 : e2_gdM M p l e R s m args below meth c Q D cA A ads r0 51 al_a219_1 [] E_a219_1 h_a219_1 := by
    refine e2_indL (u := 2) (j := 5) (lo := 2147483648) (hi := 2147483669) (b := 2) (dd := 0) hl0 (by decide) rfl rfl (Or.inr ⟨rfl, rfl⟩) rfl ci_a219_1 cj_a219_1 ?_
    intro r_1 k_1 hk_1 hp_1 hs_1 hn_1
    have hl_1 : r_1.length ≤ 3 := hs_1.len rfl
    have ha_1 := ha.ext hp_1
    exact e2_fromM hen ha_1 hcall (e2_cutA_ok (e2_fa (fun al st E h hc => (EN_0 al st E h hc).ext hp_1) (e2_fa (fun al st E h hc => hn_1 al st E h hc) e2_fz))) (hC [60, 62]) (X := e2x_81) ex2_81 51 ck_a219_1
  have EN_1 := e2_entL (u := 2) (j := 5) (lo := 2147483648) (hi := 2147483669) hl0 rfl rfl rfl ci_a219_1 cj_a219_1 L_1
  exact e2_from hen ha hcall (e2_cutA_ok (e2_fa (fun al st E h hc => EN_1 al st E h hc) e2_fz)) (hC [60, 62]) (X := e2x_81) ex2_81 0 ck_a219_e
/-! a220 X4_placeFrom -/
def as_a220 : List ev_V := [(2, 59, 0), (0, 3, 0), (11, 2147483649, 2147483668), (11, 0, 4294967295)]
def E_a220 : e2_E := [(2147483648, 2147583648, 0, 0), (2147483652, 2147483668, 1, 0)]
def ac191 : ev_C := (4, [(2, 65, 0), (2, 63, 0), (2, 1, 0), (11, 0, 4294967295), (2, 62, 0), (11, 0, 4294967295), (11, 2147483648, 2147483668), (2, 60, 0), (11, 2147483648, 2147483668), (11, 0, 4294967295), (11, 0, 4294967295), (2, 61, 0), (2, 64, 0), (0, 3, 0)])
def an991 : e2_Q1 := (ac191, ac3)
def an992 : e2_Q2 := (an991, an216)
def an993 : e2_Q3 := (an214, an992)
def an994 : e2_Q4 := (an414, an993)
def an995 : e2_Q5 := (an343, an994)
def an996 : e2_Q6 := (an995, an435)
def an997 : e2_Q7 := (an431, an996)
def an998 : e2_Q8 := (an404, an997)
noncomputable def f_a220 : ev_H := (an998 : e2_Q8)
noncomputable def q_a220_0 : ev_H := (an998 : e2_Q8)
noncomputable def rs_a220 : e2_Rs := [((11, 2147483648, 2147483649), q_a220_0)]
noncomputable def s_a220 : e2_Sm := (81, as_a220, E_a220, f_a220, rs_a220)
noncomputable def S_a220 : List e2_Sm := [s_a7]
noncomputable def I_a220 : List e2_In := []
set_option maxRecDepth 1000000 in
theorem ck_a220 : e2_run (e2_cal S_a220 I_a220 4000 0) (e2_fin rs_a220) e2x_81 (fun _ => false) (fun _ _ _ _ _ => false) 4000 (e2_seek e2x_81 0) (e2_al 7 as_a220) [] E_a220 f_a220 = true := by decide +kernel
set_option maxRecDepth 1000000 in
theorem co_a220 : e2_okSB E_a220.length as_a220 f_a220 rs_a220 = true := by decide +kernel
theorem cs_a220 (hen : en_ok) (l : Launch) (hh : e2_hand_a l) : e2_smOk l 61 s_a220 := e2_con0 (H := 60) (n := 0) (C := evd_81) (S := S_a220) (I := I_a220) (fuel := 4000) [60, 62] hen ei_81 (e2_fa (hh _ hm_a7) e2_fz) e2_fz (by decide) co_a220 ex2_81 ck_a220
/-! a221 X4_placeFrom -/
def as_a221 : List ev_V := [(2, 59, 0), (0, 2, 0), (11, 2147483649, 2147483668), (11, 0, 4294967295)]
def E_a221 : e2_E := [(2147483648, 2147583648, 0, 0), (2147483652, 2147483668, 1, 0)]
def ac192 : ev_C := (50, [(11, 2147483648, 2147483655), (11, 2147483648, 2147483655), (11, 2147483648, 2147483655)])
def an999 : e2_Q1 := (ac192, ac3)
def an1000 : e2_Q2 := (an0, an999)
def an1001 : e2_Q3 := (an1000, an5)
def an1002 : e2_Q4 := (an1001, an13)
def an1003 : e2_Q5 := (an1002, an379)
def an1004 : e2_Q6 := (an1003, an910)
def an1005 : e2_Q7 := (an1004, an403)
def an1006 : e2_Q8 := (an1005, an997)
noncomputable def f_a221 : ev_H := (an1006 : e2_Q8)
noncomputable def q_a221_0 : ev_H := (an1006 : e2_Q8)
noncomputable def rs_a221 : e2_Rs := [((11, 2147483648, 2147483649), q_a221_0)]
noncomputable def s_a221 : e2_Sm := (81, as_a221, E_a221, f_a221, rs_a221)
noncomputable def S_a221 : List e2_Sm := [s_a220]
noncomputable def I_a221 : List e2_In := [(64, 2, e2x_64)]
set_option maxRecDepth 1000000 in
theorem co_a221 : e2_okSB E_a221.length as_a221 f_a221 rs_a221 = true := by decide +kernel
def al_a221_0 : List ev_V := [(2, 59, 0), (0, 2, 0), (11, 2147483649, 2147483668), (11, 0, 4294967295), (11, 2147483648, 2147483655), (1, 2, 4294967296), (9, 0, 0)]
def E_a221_0 : e2_E := [(2147483648, 2147583648, 0, 0), (2147483652, 2147483668, 1, 0), (2147483649, 2147483669, 2, 0)]
noncomputable def h_a221_0 : ev_H := (an1006 : e2_Q8)
noncomputable def cl_a221_e : List (Nat × e2_S) := [(51, e2_cutL (al_a221_0.set 5 (11, 2147483649, 2147483669)) 2 (E_a221_0.take 2) h_a221_0)]
set_option maxRecDepth 1000000 in
theorem ck_a221_e : e2_run (e2_cal S_a221 I_a221 4000 1) (e2_fin rs_a221) e2x_81 (e2_bpL cl_a221_e) (e2_cutA cl_a221_e) 4000 (e2_seek e2x_81 0) (e2_al 7 as_a221) [] E_a221 f_a221 = true := by decide +kernel
noncomputable def cl_a221_0 : List (Nat × e2_S) := [(51, e2_cutL (al_a221_0.set 5 (13, 10, 2147483669)) 2 (E_a221_0.take 2) h_a221_0)]
set_option maxRecDepth 1000000 in
theorem ck_a221_0 : e2_runM (e2_cal S_a221 I_a221 4000 1) (e2_fin rs_a221) e2x_81 (e2_bpL cl_a221_0) (e2_cutA cl_a221_0) 4000 (e2_seek e2x_81 51) al_a221_0 [] E_a221_0 h_a221_0 = true := by decide +kernel
set_option maxRecDepth 1000000 in
theorem ci_a221_0 : e2_idl 2 (al_a221_0.set 5 (9, 0, 0)) = true := by decide +kernel
set_option maxRecDepth 1000000 in
theorem cj_a221_0 : e2_idh 2 8 h_a221_0 = true := by decide +kernel
theorem cs_a221 (hen : en_ok) (l : Launch) (hh : e2_hand_a l) : e2_smOk l 63 s_a221 := by
  refine e2_conG (H := 61) (n := 1) (C := evd_81) (S := S_a221) (I := I_a221) (fuel := 4000) hen ei_81 (e2_fa (cs_a220 hen l hh) e2_fz) (e2_fa ein_64 e2_fz) (by decide) co_a221 fun M d _ hC hcall p e R s m args below meth c Q D cA A ads r0 ha hl0 => ?_
  have L_0 : e2_gdM M p l e R s m args below meth c Q D cA A ads r0 51 al_a221_0 [] E_a221_0 h_a221_0 := by
    refine e2_indL (u := 2) (j := 5) (lo := 2147483649) (hi := 2147483669) (b := 2) (dd := 0) hl0 (by decide) rfl rfl (Or.inr ⟨rfl, rfl⟩) rfl ci_a221_0 cj_a221_0 ?_
    intro r_0 k_0 hk_0 hp_0 hs_0 hn_0
    have hl_0 : r_0.length ≤ 3 := hs_0.len rfl
    have ha_0 := ha.ext hp_0
    exact e2_fromM hen ha_0 hcall (e2_cutA_ok (e2_fa (fun al st E h hc => hn_0 al st E h hc) e2_fz)) (hC [60, 62]) (X := e2x_81) ex2_81 51 ck_a221_0
  have EN_0 := e2_entL (u := 2) (j := 5) (lo := 2147483649) (hi := 2147483669) hl0 rfl rfl rfl ci_a221_0 cj_a221_0 L_0
  exact e2_from hen ha hcall (e2_cutA_ok (e2_fa (fun al st E h hc => EN_0 al st E h hc) e2_fz)) (hC [60, 62]) (X := e2x_81) ex2_81 0 ck_a221_e
/-! a222 X4_placeFrom -/
def as_a222 : List ev_V := [(2, 59, 0), (0, 1, 0), (11, 2147483649, 2147483668), (11, 0, 4294967295)]
def E_a222 : e2_E := [(2147483648, 2147583648, 0, 0), (2147483652, 2147483668, 1, 0)]
noncomputable def f_a222 : ev_H := (an1006 : e2_Q8)
noncomputable def q_a222_0 : ev_H := (an1006 : e2_Q8)
noncomputable def rs_a222 : e2_Rs := [((11, 2147483648, 2147483649), q_a222_0)]
noncomputable def s_a222 : e2_Sm := (81, as_a222, E_a222, f_a222, rs_a222)
noncomputable def S_a222 : List e2_Sm := [s_a221]
noncomputable def I_a222 : List e2_In := [(64, 2, e2x_64)]
set_option maxRecDepth 1000000 in
theorem co_a222 : e2_okSB E_a222.length as_a222 f_a222 rs_a222 = true := by decide +kernel
def al_a222_0 : List ev_V := [(2, 59, 0), (0, 1, 0), (11, 2147483649, 2147483668), (11, 0, 4294967295), (11, 2147483648, 2147483655), (1, 2, 4294967296), (9, 0, 0)]
def E_a222_0 : e2_E := [(2147483648, 2147583648, 0, 0), (2147483652, 2147483668, 1, 0), (2147483649, 2147483669, 2, 0)]
noncomputable def h_a222_0 : ev_H := (an1006 : e2_Q8)
noncomputable def cl_a222_e : List (Nat × e2_S) := [(51, e2_cutL (al_a222_0.set 5 (11, 2147483649, 2147483669)) 2 (E_a222_0.take 2) h_a222_0)]
set_option maxRecDepth 1000000 in
theorem ck_a222_e : e2_run (e2_cal S_a222 I_a222 4000 1) (e2_fin rs_a222) e2x_81 (e2_bpL cl_a222_e) (e2_cutA cl_a222_e) 4000 (e2_seek e2x_81 0) (e2_al 7 as_a222) [] E_a222 f_a222 = true := by decide +kernel
noncomputable def cl_a222_0 : List (Nat × e2_S) := [(51, e2_cutL (al_a222_0.set 5 (13, 10, 2147483669)) 2 (E_a222_0.take 2) h_a222_0)]
set_option maxRecDepth 1000000 in
theorem ck_a222_0 : e2_runM (e2_cal S_a222 I_a222 4000 1) (e2_fin rs_a222) e2x_81 (e2_bpL cl_a222_0) (e2_cutA cl_a222_0) 4000 (e2_seek e2x_81 51) al_a222_0 [] E_a222_0 h_a222_0 = true := by decide +kernel
set_option maxRecDepth 1000000 in
theorem ci_a222_0 : e2_idl 2 (al_a222_0.set 5 (9, 0, 0)) = true := by decide +kernel
set_option maxRecDepth 1000000 in
theorem cj_a222_0 : e2_idh 2 8 h_a222_0 = true := by decide +kernel
theorem cs_a222 (hen : en_ok) (l : Launch) (hh : e2_hand_a l) : e2_smOk l 65 s_a222 := by
  refine e2_conG (H := 63) (n := 1) (C := evd_81) (S := S_a222) (I := I_a222) (fuel := 4000) hen ei_81 (e2_fa (cs_a221 hen l hh) e2_fz) (e2_fa ein_64 e2_fz) (by decide) co_a222 fun M d _ hC hcall p e R s m args below meth c Q D cA A ads r0 ha hl0 => ?_
  have L_0 : e2_gdM M p l e R s m args below meth c Q D cA A ads r0 51 al_a222_0 [] E_a222_0 h_a222_0 := by
    refine e2_indL (u := 2) (j := 5) (lo := 2147483649) (hi := 2147483669) (b := 2) (dd := 0) hl0 (by decide) rfl rfl (Or.inr ⟨rfl, rfl⟩) rfl ci_a222_0 cj_a222_0 ?_
    intro r_0 k_0 hk_0 hp_0 hs_0 hn_0
    have hl_0 : r_0.length ≤ 3 := hs_0.len rfl
    have ha_0 := ha.ext hp_0
    exact e2_fromM hen ha_0 hcall (e2_cutA_ok (e2_fa (fun al st E h hc => hn_0 al st E h hc) e2_fz)) (hC [60, 62]) (X := e2x_81) ex2_81 51 ck_a222_0
  have EN_0 := e2_entL (u := 2) (j := 5) (lo := 2147483649) (hi := 2147483669) hl0 rfl rfl rfl ci_a222_0 cj_a222_0 L_0
  exact e2_from hen ha hcall (e2_cutA_ok (e2_fa (fun al st E h hc => EN_0 al st E h hc) e2_fz)) (hC [60, 62]) (X := e2x_81) ex2_81 0 ck_a222_e
/-! a223 X4_placeFrom -/
def as_a223 : List ev_V := [(2, 59, 0), (0, 3, 0), (11, 2147483648, 2147483668), (11, 0, 4294967295)]
def E_a223 : e2_E := [(2147483648, 2147583648, 0, 0), (2147483652, 2147483668, 1, 0)]
def an1007 : e2_Q6 := (an995, an418)
def an1008 : e2_Q7 := (an412, an1007)
def an1009 : e2_Q8 := (an404, an1008)
noncomputable def f_a223 : ev_H := (an1009 : e2_Q8)
noncomputable def q_a223_0 : ev_H := (an998 : e2_Q8)
noncomputable def q_a223_1 : ev_H := (an1009 : e2_Q8)
noncomputable def rs_a223 : e2_Rs := [((11, 2147483648, 2147483649), q_a223_0), ((0, 0, 0), q_a223_1)]
noncomputable def s_a223 : e2_Sm := (81, as_a223, E_a223, f_a223, rs_a223)
noncomputable def S_a223 : List e2_Sm := [s_a5]
noncomputable def I_a223 : List e2_In := []
set_option maxRecDepth 1000000 in
theorem ck_a223 : e2_run (e2_cal S_a223 I_a223 4000 0) (e2_fin rs_a223) e2x_81 (fun _ => false) (fun _ _ _ _ _ => false) 4000 (e2_seek e2x_81 0) (e2_al 7 as_a223) [] E_a223 f_a223 = true := by decide +kernel
set_option maxRecDepth 1000000 in
theorem co_a223 : e2_okSB E_a223.length as_a223 f_a223 rs_a223 = true := by decide +kernel
theorem cs_a223 (hen : en_ok) (l : Launch) (hh : e2_hand_a l) : e2_smOk l 61 s_a223 := e2_con0 (H := 60) (n := 0) (C := evd_81) (S := S_a223) (I := I_a223) (fuel := 4000) [60, 62] hen ei_81 (e2_fa (hh _ hm_a5) e2_fz) e2_fz (by decide) co_a223 ex2_81 ck_a223
/-! a224 X4_placeFrom -/
def as_a224 : List ev_V := [(2, 59, 0), (0, 2, 0), (11, 2147483648, 2147483668), (11, 0, 4294967295)]
def E_a224 : e2_E := [(2147483648, 2147583648, 0, 0), (2147483652, 2147483668, 1, 0)]
def an1010 : e2_Q8 := (an1005, an1008)
noncomputable def f_a224 : ev_H := (an1010 : e2_Q8)
noncomputable def q_a224_0 : ev_H := (an1006 : e2_Q8)
noncomputable def q_a224_1 : ev_H := (an1010 : e2_Q8)
noncomputable def rs_a224 : e2_Rs := [((11, 2147483648, 2147483649), q_a224_0), ((0, 0, 0), q_a224_1)]
noncomputable def s_a224 : e2_Sm := (81, as_a224, E_a224, f_a224, rs_a224)
noncomputable def S_a224 : List e2_Sm := [s_a220, s_a223]
noncomputable def I_a224 : List e2_In := [(64, 2, e2x_64)]
set_option maxRecDepth 1000000 in
theorem co_a224 : e2_okSB E_a224.length as_a224 f_a224 rs_a224 = true := by decide +kernel
def al_a224_0 : List ev_V := [(2, 59, 0), (0, 2, 0), (11, 2147483648, 2147483668), (11, 0, 4294967295), (11, 2147483648, 2147483655), (1, 2, 4294967296), (11, 2147483648, 2147483668)]
def E_a224_0 : e2_E := [(2147483648, 2147583648, 0, 0), (2147483652, 2147483668, 1, 0), (2147483649, 2147483669, 2, 0)]
noncomputable def h_a224_0 : ev_H := (an1006 : e2_Q8)
def al_a224_1 : List ev_V := [(2, 59, 0), (0, 2, 0), (11, 2147483648, 2147483668), (11, 0, 4294967295), (11, 2147483648, 2147483655), (1, 2, 4294967296), (9, 0, 0)]
def E_a224_1 : e2_E := [(2147483648, 2147583648, 0, 0), (2147483652, 2147483668, 1, 0), (2147483648, 2147483669, 2, 0)]
noncomputable def h_a224_1 : ev_H := (an1010 : e2_Q8)
noncomputable def cl_a224_e : List (Nat × e2_S) := [(51, e2_cutL (al_a224_1.set 5 (11, 2147483648, 2147483669)) 2 (E_a224_1.take 2) h_a224_1)]
set_option maxRecDepth 1000000 in
theorem ck_a224_e : e2_run (e2_cal S_a224 I_a224 4000 1) (e2_fin rs_a224) e2x_81 (e2_bpL cl_a224_e) (e2_cutA cl_a224_e) 4000 (e2_seek e2x_81 0) (e2_al 7 as_a224) [] E_a224 f_a224 = true := by decide +kernel
noncomputable def cl_a224_0 : List (Nat × e2_S) := [(51, e2_cutL (al_a224_0.set 5 (13, 10, 2147483669)) 2 (E_a224_0.take 2) h_a224_0)]
set_option maxRecDepth 1000000 in
theorem ck_a224_0 : e2_runM (e2_cal S_a224 I_a224 4000 1) (e2_fin rs_a224) e2x_81 (e2_bpL cl_a224_0) (e2_cutA cl_a224_0) 4000 (e2_seek e2x_81 51) al_a224_0 [] E_a224_0 h_a224_0 = true := by decide +kernel
set_option maxRecDepth 1000000 in
theorem ci_a224_0 : e2_idl 2 (al_a224_0.set 5 (9, 0, 0)) = true := by decide +kernel
set_option maxRecDepth 1000000 in
theorem cj_a224_0 : e2_idh 2 8 h_a224_0 = true := by decide +kernel
noncomputable def cl_a224_1 : List (Nat × e2_S) := [(51, e2_cutL (al_a224_0.set 5 (11, 2147483649, 2147483669)) 2 (E_a224_0.take 2) h_a224_0),
  (51, e2_cutL (al_a224_1.set 5 (13, 10, 2147483669)) 2 (E_a224_1.take 2) h_a224_1)]
set_option maxRecDepth 1000000 in
theorem ck_a224_1 : e2_runM (e2_cal S_a224 I_a224 4000 1) (e2_fin rs_a224) e2x_81 (e2_bpL cl_a224_1) (e2_cutA cl_a224_1) 4000 (e2_seek e2x_81 51) al_a224_1 [] E_a224_1 h_a224_1 = true := by decide +kernel
set_option maxRecDepth 1000000 in
theorem ci_a224_1 : e2_idl 2 (al_a224_1.set 5 (9, 0, 0)) = true := by decide +kernel
set_option maxRecDepth 1000000 in
theorem cj_a224_1 : e2_idh 2 8 h_a224_1 = true := by decide +kernel
theorem cs_a224 (hen : en_ok) (l : Launch) (hh : e2_hand_a l) : e2_smOk l 63 s_a224 := by
  refine e2_conG (H := 61) (n := 1) (C := evd_81) (S := S_a224) (I := I_a224) (fuel := 4000) hen ei_81 (e2_fa (cs_a220 hen l hh) (e2_fa (cs_a223 hen l hh) e2_fz)) (e2_fa ein_64 e2_fz) (by decide) co_a224 fun M d _ hC hcall p e R s m args below meth c Q D cA A ads r0 ha hl0 => ?_
  have L_0 : e2_gdM M p l e R s m args below meth c Q D cA A ads r0 51 al_a224_0 [] E_a224_0 h_a224_0 := by
    refine e2_indL (u := 2) (j := 5) (lo := 2147483649) (hi := 2147483669) (b := 2) (dd := 0) hl0 (by decide) rfl rfl (Or.inr ⟨rfl, rfl⟩) rfl ci_a224_0 cj_a224_0 ?_
    intro r_0 k_0 hk_0 hp_0 hs_0 hn_0
    have hl_0 : r_0.length ≤ 3 := hs_0.len rfl
    have ha_0 := ha.ext hp_0
    exact e2_fromM hen ha_0 hcall (e2_cutA_ok (e2_fa (fun al st E h hc => hn_0 al st E h hc) e2_fz)) (hC [60, 62]) (X := e2x_81) ex2_81 51 ck_a224_0
  have EN_0 := e2_entL (u := 2) (j := 5) (lo := 2147483649) (hi := 2147483669) hl0 rfl rfl rfl ci_a224_0 cj_a224_0 L_0
  have L_1 : e2_gdM M p l e R s m args below meth c Q D cA A ads r0 51 al_a224_1 [] E_a224_1 h_a224_1 := by
    refine e2_indL (u := 2) (j := 5) (lo := 2147483648) (hi := 2147483669) (b := 2) (dd := 0) hl0 (by decide) rfl rfl (Or.inr ⟨rfl, rfl⟩) rfl ci_a224_1 cj_a224_1 ?_
    intro r_1 k_1 hk_1 hp_1 hs_1 hn_1
    have hl_1 : r_1.length ≤ 3 := hs_1.len rfl
    have ha_1 := ha.ext hp_1
    exact e2_fromM hen ha_1 hcall (e2_cutA_ok (e2_fa (fun al st E h hc => (EN_0 al st E h hc).ext hp_1) (e2_fa (fun al st E h hc => hn_1 al st E h hc) e2_fz))) (hC [60, 62]) (X := e2x_81) ex2_81 51 ck_a224_1
  have EN_1 := e2_entL (u := 2) (j := 5) (lo := 2147483648) (hi := 2147483669) hl0 rfl rfl rfl ci_a224_1 cj_a224_1 L_1
  exact e2_from hen ha hcall (e2_cutA_ok (e2_fa (fun al st E h hc => EN_1 al st E h hc) e2_fz)) (hC [60, 62]) (X := e2x_81) ex2_81 0 ck_a224_e
/-! a225 X4_placeFrom -/
def as_a225 : List ev_V := [(2, 59, 0), (0, 1, 0), (11, 2147483648, 2147483668), (11, 0, 4294967295)]
def E_a225 : e2_E := [(2147483648, 2147583648, 0, 0), (2147483652, 2147483668, 1, 0)]
noncomputable def f_a225 : ev_H := (an1010 : e2_Q8)
noncomputable def q_a225_0 : ev_H := (an1006 : e2_Q8)
noncomputable def q_a225_1 : ev_H := (an1010 : e2_Q8)
noncomputable def rs_a225 : e2_Rs := [((11, 2147483648, 2147483649), q_a225_0), ((0, 0, 0), q_a225_1)]
noncomputable def s_a225 : e2_Sm := (81, as_a225, E_a225, f_a225, rs_a225)
noncomputable def S_a225 : List e2_Sm := [s_a221, s_a224]
noncomputable def I_a225 : List e2_In := [(64, 2, e2x_64)]
set_option maxRecDepth 1000000 in
theorem co_a225 : e2_okSB E_a225.length as_a225 f_a225 rs_a225 = true := by decide +kernel
def al_a225_0 : List ev_V := [(2, 59, 0), (0, 1, 0), (11, 2147483648, 2147483668), (11, 0, 4294967295), (11, 2147483648, 2147483655), (1, 2, 4294967296), (11, 2147483648, 2147483668)]
def E_a225_0 : e2_E := [(2147483648, 2147583648, 0, 0), (2147483652, 2147483668, 1, 0), (2147483649, 2147483669, 2, 0)]
noncomputable def h_a225_0 : ev_H := (an1006 : e2_Q8)
def al_a225_1 : List ev_V := [(2, 59, 0), (0, 1, 0), (11, 2147483648, 2147483668), (11, 0, 4294967295), (11, 2147483648, 2147483655), (1, 2, 4294967296), (9, 0, 0)]
def E_a225_1 : e2_E := [(2147483648, 2147583648, 0, 0), (2147483652, 2147483668, 1, 0), (2147483648, 2147483669, 2, 0)]
noncomputable def h_a225_1 : ev_H := (an1010 : e2_Q8)
noncomputable def cl_a225_e : List (Nat × e2_S) := [(51, e2_cutL (al_a225_1.set 5 (11, 2147483648, 2147483669)) 2 (E_a225_1.take 2) h_a225_1)]
set_option maxRecDepth 1000000 in
theorem ck_a225_e : e2_run (e2_cal S_a225 I_a225 4000 1) (e2_fin rs_a225) e2x_81 (e2_bpL cl_a225_e) (e2_cutA cl_a225_e) 4000 (e2_seek e2x_81 0) (e2_al 7 as_a225) [] E_a225 f_a225 = true := by decide +kernel
noncomputable def cl_a225_0 : List (Nat × e2_S) := [(51, e2_cutL (al_a225_0.set 5 (13, 10, 2147483669)) 2 (E_a225_0.take 2) h_a225_0)]
set_option maxRecDepth 1000000 in
theorem ck_a225_0 : e2_runM (e2_cal S_a225 I_a225 4000 1) (e2_fin rs_a225) e2x_81 (e2_bpL cl_a225_0) (e2_cutA cl_a225_0) 4000 (e2_seek e2x_81 51) al_a225_0 [] E_a225_0 h_a225_0 = true := by decide +kernel
set_option maxRecDepth 1000000 in
theorem ci_a225_0 : e2_idl 2 (al_a225_0.set 5 (9, 0, 0)) = true := by decide +kernel
set_option maxRecDepth 1000000 in
theorem cj_a225_0 : e2_idh 2 8 h_a225_0 = true := by decide +kernel
noncomputable def cl_a225_1 : List (Nat × e2_S) := [(51, e2_cutL (al_a225_0.set 5 (11, 2147483649, 2147483669)) 2 (E_a225_0.take 2) h_a225_0),
  (51, e2_cutL (al_a225_1.set 5 (13, 10, 2147483669)) 2 (E_a225_1.take 2) h_a225_1)]
set_option maxRecDepth 1000000 in
theorem ck_a225_1 : e2_runM (e2_cal S_a225 I_a225 4000 1) (e2_fin rs_a225) e2x_81 (e2_bpL cl_a225_1) (e2_cutA cl_a225_1) 4000 (e2_seek e2x_81 51) al_a225_1 [] E_a225_1 h_a225_1 = true := by decide +kernel
set_option maxRecDepth 1000000 in
theorem ci_a225_1 : e2_idl 2 (al_a225_1.set 5 (9, 0, 0)) = true := by decide +kernel
set_option maxRecDepth 1000000 in
theorem cj_a225_1 : e2_idh 2 8 h_a225_1 = true := by decide +kernel
theorem cs_a225 (hen : en_ok) (l : Launch) (hh : e2_hand_a l) : e2_smOk l 65 s_a225 := by
  refine e2_conG (H := 63) (n := 1) (C := evd_81) (S := S_a225) (I := I_a225) (fuel := 4000) hen ei_81 (e2_fa (cs_a221 hen l hh) (e2_fa (cs_a224 hen l hh) e2_fz)) (e2_fa ein_64 e2_fz) (by decide) co_a225 fun M d _ hC hcall p e R s m args below meth c Q D cA A ads r0 ha hl0 => ?_
  have L_0 : e2_gdM M p l e R s m args below meth c Q D cA A ads r0 51 al_a225_0 [] E_a225_0 h_a225_0 := by
    refine e2_indL (u := 2) (j := 5) (lo := 2147483649) (hi := 2147483669) (b := 2) (dd := 0) hl0 (by decide) rfl rfl (Or.inr ⟨rfl, rfl⟩) rfl ci_a225_0 cj_a225_0 ?_
    intro r_0 k_0 hk_0 hp_0 hs_0 hn_0
    have hl_0 : r_0.length ≤ 3 := hs_0.len rfl
    have ha_0 := ha.ext hp_0
    exact e2_fromM hen ha_0 hcall (e2_cutA_ok (e2_fa (fun al st E h hc => hn_0 al st E h hc) e2_fz)) (hC [60, 62]) (X := e2x_81) ex2_81 51 ck_a225_0
  have EN_0 := e2_entL (u := 2) (j := 5) (lo := 2147483649) (hi := 2147483669) hl0 rfl rfl rfl ci_a225_0 cj_a225_0 L_0
  have L_1 : e2_gdM M p l e R s m args below meth c Q D cA A ads r0 51 al_a225_1 [] E_a225_1 h_a225_1 := by
    refine e2_indL (u := 2) (j := 5) (lo := 2147483648) (hi := 2147483669) (b := 2) (dd := 0) hl0 (by decide) rfl rfl (Or.inr ⟨rfl, rfl⟩) rfl ci_a225_1 cj_a225_1 ?_
    intro r_1 k_1 hk_1 hp_1 hs_1 hn_1
    have hl_1 : r_1.length ≤ 3 := hs_1.len rfl
    have ha_1 := ha.ext hp_1
    exact e2_fromM hen ha_1 hcall (e2_cutA_ok (e2_fa (fun al st E h hc => (EN_0 al st E h hc).ext hp_1) (e2_fa (fun al st E h hc => hn_1 al st E h hc) e2_fz))) (hC [60, 62]) (X := e2x_81) ex2_81 51 ck_a225_1
  have EN_1 := e2_entL (u := 2) (j := 5) (lo := 2147483648) (hi := 2147483669) hl0 rfl rfl rfl ci_a225_1 cj_a225_1 L_1
  exact e2_from hen ha hcall (e2_cutA_ok (e2_fa (fun al st E h hc => EN_1 al st E h hc) e2_fz)) (hC [60, 62]) (X := e2x_81) ex2_81 0 ck_a225_e
/-! a226 X4_placeFrom -/
def as_a226 : List ev_V := [(2, 59, 0), (0, 0, 0), (0, 0, 0), (0, 0, 0)]
def E_a226 : e2_E := [(2147483648, 2147583648, 0, 0), (2147483652, 2147483668, 1, 0)]
noncomputable def f_a226 : ev_H := (an1010 : e2_Q8)
noncomputable def q_a226_0 : ev_H := (an1006 : e2_Q8)
noncomputable def q_a226_1 : ev_H := (an1010 : e2_Q8)
noncomputable def rs_a226 : e2_Rs := [((11, 2147483648, 2147483649), q_a226_0), ((0, 0, 0), q_a226_1)]
noncomputable def s_a226 : e2_Sm := (81, as_a226, E_a226, f_a226, rs_a226)
noncomputable def S_a226 : List e2_Sm := [s_a222, s_a225]
noncomputable def I_a226 : List e2_In := [(64, 2, e2x_64)]
set_option maxRecDepth 1000000 in
theorem co_a226 : e2_okSB E_a226.length as_a226 f_a226 rs_a226 = true := by decide +kernel
def al_a226_0 : List ev_V := [(2, 59, 0), (0, 0, 0), (0, 0, 0), (0, 0, 0), (11, 2147483648, 2147483655), (1, 2, 4294967296), (11, 2147483648, 2147483668)]
def E_a226_0 : e2_E := [(2147483648, 2147583648, 0, 0), (2147483652, 2147483668, 1, 0), (2147483649, 2147483669, 2, 0)]
noncomputable def h_a226_0 : ev_H := (an1006 : e2_Q8)
def al_a226_1 : List ev_V := [(2, 59, 0), (0, 0, 0), (0, 0, 0), (0, 0, 0), (11, 2147483648, 2147483655), (1, 2, 4294967296), (9, 0, 0)]
def E_a226_1 : e2_E := [(2147483648, 2147583648, 0, 0), (2147483652, 2147483668, 1, 0), (2147483648, 2147483669, 2, 0)]
noncomputable def h_a226_1 : ev_H := (an1010 : e2_Q8)
noncomputable def cl_a226_e : List (Nat × e2_S) := [(51, e2_cutL (al_a226_1.set 5 (11, 2147483648, 2147483669)) 2 (E_a226_1.take 2) h_a226_1)]
set_option maxRecDepth 1000000 in
theorem ck_a226_e : e2_run (e2_cal S_a226 I_a226 4000 1) (e2_fin rs_a226) e2x_81 (e2_bpL cl_a226_e) (e2_cutA cl_a226_e) 4000 (e2_seek e2x_81 0) (e2_al 7 as_a226) [] E_a226 f_a226 = true := by decide +kernel
noncomputable def cl_a226_0 : List (Nat × e2_S) := [(51, e2_cutL (al_a226_0.set 5 (13, 10, 2147483669)) 2 (E_a226_0.take 2) h_a226_0)]
set_option maxRecDepth 1000000 in
theorem ck_a226_0 : e2_runM (e2_cal S_a226 I_a226 4000 1) (e2_fin rs_a226) e2x_81 (e2_bpL cl_a226_0) (e2_cutA cl_a226_0) 4000 (e2_seek e2x_81 51) al_a226_0 [] E_a226_0 h_a226_0 = true := by decide +kernel
set_option maxRecDepth 1000000 in
theorem ci_a226_0 : e2_idl 2 (al_a226_0.set 5 (9, 0, 0)) = true := by decide +kernel
set_option maxRecDepth 1000000 in
theorem cj_a226_0 : e2_idh 2 8 h_a226_0 = true := by decide +kernel
noncomputable def cl_a226_1 : List (Nat × e2_S) := [(51, e2_cutL (al_a226_0.set 5 (11, 2147483649, 2147483669)) 2 (E_a226_0.take 2) h_a226_0),
  (51, e2_cutL (al_a226_1.set 5 (13, 10, 2147483669)) 2 (E_a226_1.take 2) h_a226_1)]
set_option maxRecDepth 1000000 in
theorem ck_a226_1 : e2_runM (e2_cal S_a226 I_a226 4000 1) (e2_fin rs_a226) e2x_81 (e2_bpL cl_a226_1) (e2_cutA cl_a226_1) 4000 (e2_seek e2x_81 51) al_a226_1 [] E_a226_1 h_a226_1 = true := by decide +kernel
set_option maxRecDepth 1000000 in
theorem ci_a226_1 : e2_idl 2 (al_a226_1.set 5 (9, 0, 0)) = true := by decide +kernel
set_option maxRecDepth 1000000 in
theorem cj_a226_1 : e2_idh 2 8 h_a226_1 = true := by decide +kernel
theorem cs_a226 (hen : en_ok) (l : Launch) (hh : e2_hand_a l) : e2_smOk l 67 s_a226 := by
  refine e2_conG (H := 65) (n := 1) (C := evd_81) (S := S_a226) (I := I_a226) (fuel := 4000) hen ei_81 (e2_fa (cs_a222 hen l hh) (e2_fa (cs_a225 hen l hh) e2_fz)) (e2_fa ein_64 e2_fz) (by decide) co_a226 fun M d _ hC hcall p e R s m args below meth c Q D cA A ads r0 ha hl0 => ?_
  have L_0 : e2_gdM M p l e R s m args below meth c Q D cA A ads r0 51 al_a226_0 [] E_a226_0 h_a226_0 := by
    refine e2_indL (u := 2) (j := 5) (lo := 2147483649) (hi := 2147483669) (b := 2) (dd := 0) hl0 (by decide) rfl rfl (Or.inr ⟨rfl, rfl⟩) rfl ci_a226_0 cj_a226_0 ?_
    intro r_0 k_0 hk_0 hp_0 hs_0 hn_0
    have hl_0 : r_0.length ≤ 3 := hs_0.len rfl
    have ha_0 := ha.ext hp_0
    exact e2_fromM hen ha_0 hcall (e2_cutA_ok (e2_fa (fun al st E h hc => hn_0 al st E h hc) e2_fz)) (hC [60, 62]) (X := e2x_81) ex2_81 51 ck_a226_0
  have EN_0 := e2_entL (u := 2) (j := 5) (lo := 2147483649) (hi := 2147483669) hl0 rfl rfl rfl ci_a226_0 cj_a226_0 L_0
  have L_1 : e2_gdM M p l e R s m args below meth c Q D cA A ads r0 51 al_a226_1 [] E_a226_1 h_a226_1 := by
    refine e2_indL (u := 2) (j := 5) (lo := 2147483648) (hi := 2147483669) (b := 2) (dd := 0) hl0 (by decide) rfl rfl (Or.inr ⟨rfl, rfl⟩) rfl ci_a226_1 cj_a226_1 ?_
    intro r_1 k_1 hk_1 hp_1 hs_1 hn_1
    have hl_1 : r_1.length ≤ 3 := hs_1.len rfl
    have ha_1 := ha.ext hp_1
    exact e2_fromM hen ha_1 hcall (e2_cutA_ok (e2_fa (fun al st E h hc => (EN_0 al st E h hc).ext hp_1) (e2_fa (fun al st E h hc => hn_1 al st E h hc) e2_fz))) (hC [60, 62]) (X := e2x_81) ex2_81 51 ck_a226_1
  have EN_1 := e2_entL (u := 2) (j := 5) (lo := 2147483648) (hi := 2147483669) hl0 rfl rfl rfl ci_a226_1 cj_a226_1 L_1
  exact e2_from hen ha hcall (e2_cutA_ok (e2_fa (fun al st E h hc => EN_1 al st E h hc) e2_fz)) (hC [60, 62]) (X := e2x_81) ex2_81 0 ck_a226_e
/-! a227 X4_placeFor -/
def as_a227 : List ev_V := [(2, 59, 0), (11, 2147483648, 2147483655), (11, 2147483647, 2147483655), (11, 2147483647, 2147483655)]
def E_a227 : e2_E := [(2147483648, 2147583648, 0, 0), (2147483652, 2147483668, 1, 0)]
def ac193 : ev_C := (50, [(11, 2147483647, 2147483655), (11, 2147483647, 2147483655), (11, 2147483647, 2147483655)])
def an1011 : e2_Q1 := (ac193, ac3)
def an1012 : e2_Q2 := (an0, an1011)
def an1013 : e2_Q3 := (an1012, an5)
def an1014 : e2_Q4 := (an1013, an13)
def an1015 : e2_Q5 := (an1014, an379)
def an1016 : e2_Q6 := (an1015, an910)
def an1017 : e2_Q7 := (an1016, an403)
def an1018 : e2_Q8 := (an1017, an856)
noncomputable def f_a227 : ev_H := (an1018 : e2_Q8)
def ac194 : ev_C := (50, [(11, 2147483648, 2147483655), (11, 2147483647, 2147483655), (11, 2147483647, 2147483655)])
def an1019 : e2_Q1 := (ac194, ac3)
def an1020 : e2_Q2 := (an0, an1019)
def an1021 : e2_Q3 := (an1020, an5)
def an1022 : e2_Q4 := (an1021, an13)
def an1023 : e2_Q5 := (an1022, an379)
def an1024 : e2_Q6 := (an1023, an910)
def an1025 : e2_Q7 := (an1024, an403)
def ac195 : ev_C := (4, [(2, 65, 0), (2, 63, 0), (2, 1, 0), (11, 0, 4294967295), (2, 62, 0), (11, 0, 4294967295), (11, 2147483648, 2147483668), (2, 60, 0), (11, 2147483648, 2147483668), (11, 0, 4294967295), (11, 0, 4294967295), (2, 61, 0), (2, 64, 0), (11, 2147483649, 2147483651)])
def an1026 : e2_Q1 := (ac195, ac3)
def an1027 : e2_Q2 := (an1026, an216)
def an1028 : e2_Q3 := (an214, an1027)
def an1029 : e2_Q4 := (an414, an1028)
def an1030 : e2_Q5 := (an343, an1029)
def an1031 : e2_Q6 := (an1030, an418)
def an1032 : e2_Q7 := (an412, an1031)
def an1033 : e2_Q8 := (an1025, an1032)
noncomputable def q_a227_0 : ev_H := (an1033 : e2_Q8)
def an1034 : e2_Q6 := (an1030, an435)
def an1035 : e2_Q7 := (an431, an1034)
def an1036 : e2_Q8 := (an1025, an1035)
noncomputable def q_a227_1 : ev_H := (an1036 : e2_Q8)
noncomputable def rs_a227 : e2_Rs := [((0, 4294967295, 0), q_a227_0), ((11, 2147483647, 2147483837), q_a227_1)]
noncomputable def s_a227 : e2_Sm := (80, as_a227, E_a227, f_a227, rs_a227)
noncomputable def S_a227 : List e2_Sm := [s_a214, s_a219, s_a226]
noncomputable def I_a227 : List e2_In := [(122, 2, e2x_122), (159, 2, e2x_159), (291, 1, e2x_291)]
set_option maxRecDepth 1000000 in
theorem ck_a227 : e2_run (e2_cal S_a227 I_a227 4000 2) (e2_fin rs_a227) e2x_80 (fun _ => false) (fun _ _ _ _ _ => false) 4000 (e2_seek e2x_80 0) (e2_al 6 as_a227) [] E_a227 f_a227 = true := by decide +kernel
set_option maxRecDepth 1000000 in
theorem co_a227 : e2_okSB E_a227.length as_a227 f_a227 rs_a227 = true := by decide +kernel
theorem cs_a227 (hen : en_ok) (l : Launch) (hh : e2_hand_a l) : e2_smOk l 70 s_a227 := e2_con0 (H := 67) (n := 2) (C := evd_80) (S := S_a227) (I := I_a227) (fuel := 4000) [] hen ei_80 (e2_fa ((cs_a214 hen l hh).mono (by decide)) (e2_fa ((cs_a219 hen l hh).mono (by decide)) (e2_fa (cs_a226 hen l hh) e2_fz))) (e2_fa ein_122 (e2_fa ein_159 (e2_fa ein_291 e2_fz))) (by decide) co_a227 ex2_80 ck_a227
/-! a228 X4_harmfulCells -/
def as_a228 : List ev_V := [(2, 59, 0)]
def E_a228 : e2_E := [(2147483648, 2147583648, 0, 0), (2147483652, 2147483668, 1, 0)]
noncomputable def f_a228 : ev_H := (an857 : e2_Q8)
noncomputable def q_a228_0 : ev_H := (an860 : e2_Q8)
noncomputable def q_a228_1 : ev_H := (an857 : e2_Q8)
noncomputable def rs_a228 : e2_Rs := [((11, 0, 4294967295), q_a228_0), ((0, 0, 0), q_a228_1)]
noncomputable def s_a228 : e2_Sm := (82, as_a228, E_a228, f_a228, rs_a228)
noncomputable def S_a228 : List e2_Sm := [s_a191, s_a192]
noncomputable def I_a228 : List e2_In := [(159, 2, e2x_159)]
set_option maxRecDepth 1000000 in
theorem co_a228 : e2_okSB E_a228.length as_a228 f_a228 rs_a228 = true := by decide +kernel
def al_a228_0 : List ev_V := [(2, 59, 0), (11, 0, 4294967295), (1, 2, 4294967296)]
def E_a228_0 : e2_E := [(2147483648, 2147583648, 0, 0), (2147483652, 2147483668, 1, 0), (2147483649, 2147483668, 2, 0)]
noncomputable def h_a228_0 : ev_H := (an860 : e2_Q8)
def al_a228_1 : List ev_V := [(2, 59, 0), (0, 0, 0), (1, 2, 4294967296)]
def E_a228_1 : e2_E := [(2147483648, 2147583648, 0, 0), (2147483652, 2147483668, 1, 0), (2147483648, 2147483668, 2, 0)]
noncomputable def h_a228_1 : ev_H := (an857 : e2_Q8)
noncomputable def cl_a228_e : List (Nat × e2_S) := [(4, e2_cutL (al_a228_1.set 2 (11, 2147483648, 2147483668)) 2 (E_a228_1.take 2) h_a228_1)]
set_option maxRecDepth 1000000 in
theorem ck_a228_e : e2_run (e2_cal S_a228 I_a228 4000 1) (e2_fin rs_a228) e2x_82 (e2_bpL cl_a228_e) (e2_cutA cl_a228_e) 4000 (e2_seek e2x_82 0) (e2_al 3 as_a228) [] E_a228 f_a228 = true := by decide +kernel
noncomputable def cl_a228_0 : List (Nat × e2_S) := [(4, e2_cutL (al_a228_0.set 2 (13, 10, 2147483668)) 2 (E_a228_0.take 2) h_a228_0)]
set_option maxRecDepth 1000000 in
theorem ck_a228_0 : e2_runM (e2_cal S_a228 I_a228 4000 1) (e2_fin rs_a228) e2x_82 (e2_bpL cl_a228_0) (e2_cutA cl_a228_0) 4000 (e2_seek e2x_82 4) al_a228_0 [] E_a228_0 h_a228_0 = true := by decide +kernel
set_option maxRecDepth 1000000 in
theorem ci_a228_0 : e2_idl 2 (al_a228_0.set 2 (9, 0, 0)) = true := by decide +kernel
set_option maxRecDepth 1000000 in
theorem cj_a228_0 : e2_idh 2 8 h_a228_0 = true := by decide +kernel
noncomputable def cl_a228_1 : List (Nat × e2_S) := [(4, e2_cutL (al_a228_0.set 2 (11, 2147483649, 2147483668)) 2 (E_a228_0.take 2) h_a228_0),
  (4, e2_cutL (al_a228_1.set 2 (13, 10, 2147483668)) 2 (E_a228_1.take 2) h_a228_1)]
set_option maxRecDepth 1000000 in
theorem ck_a228_1 : e2_runM (e2_cal S_a228 I_a228 4000 1) (e2_fin rs_a228) e2x_82 (e2_bpL cl_a228_1) (e2_cutA cl_a228_1) 4000 (e2_seek e2x_82 4) al_a228_1 [] E_a228_1 h_a228_1 = true := by decide +kernel
set_option maxRecDepth 1000000 in
theorem ci_a228_1 : e2_idl 2 (al_a228_1.set 2 (9, 0, 0)) = true := by decide +kernel
set_option maxRecDepth 1000000 in
theorem cj_a228_1 : e2_idh 2 8 h_a228_1 = true := by decide +kernel
theorem cs_a228 (hen : en_ok) (l : Launch) (hh : e2_hand_a l) : e2_smOk l 63 s_a228 := by
  refine e2_conG (H := 61) (n := 1) (C := evd_82) (S := S_a228) (I := I_a228) (fuel := 4000) hen ei_82 (e2_fa (cs_a191 hen l hh) (e2_fa (cs_a192 hen l hh) e2_fz)) (e2_fa ein_159 e2_fz) (by decide) co_a228 fun M d _ hC hcall p e R s m args below meth c Q D cA A ads r0 ha hl0 => ?_
  have L_0 : e2_gdM M p l e R s m args below meth c Q D cA A ads r0 4 al_a228_0 [] E_a228_0 h_a228_0 := by
    refine e2_indL (u := 2) (j := 2) (lo := 2147483649) (hi := 2147483668) (b := 2) (dd := 0) hl0 (by decide) rfl rfl (Or.inr ⟨rfl, rfl⟩) rfl ci_a228_0 cj_a228_0 ?_
    intro r_0 k_0 hk_0 hp_0 hs_0 hn_0
    have hl_0 : r_0.length ≤ 3 := hs_0.len rfl
    have ha_0 := ha.ext hp_0
    exact e2_fromM hen ha_0 hcall (e2_cutA_ok (e2_fa (fun al st E h hc => hn_0 al st E h hc) e2_fz)) (hC []) (X := e2x_82) ex2_82 4 ck_a228_0
  have EN_0 := e2_entL (u := 2) (j := 2) (lo := 2147483649) (hi := 2147483668) hl0 rfl rfl rfl ci_a228_0 cj_a228_0 L_0
  have L_1 : e2_gdM M p l e R s m args below meth c Q D cA A ads r0 4 al_a228_1 [] E_a228_1 h_a228_1 := by
    refine e2_indL (u := 2) (j := 2) (lo := 2147483648) (hi := 2147483668) (b := 2) (dd := 0) hl0 (by decide) rfl rfl (Or.inr ⟨rfl, rfl⟩) rfl ci_a228_1 cj_a228_1 ?_
    intro r_1 k_1 hk_1 hp_1 hs_1 hn_1
    have hl_1 : r_1.length ≤ 3 := hs_1.len rfl
    have ha_1 := ha.ext hp_1
    exact e2_fromM hen ha_1 hcall (e2_cutA_ok (e2_fa (fun al st E h hc => (EN_0 al st E h hc).ext hp_1) (e2_fa (fun al st E h hc => hn_1 al st E h hc) e2_fz))) (hC []) (X := e2x_82) ex2_82 4 ck_a228_1
  have EN_1 := e2_entL (u := 2) (j := 2) (lo := 2147483648) (hi := 2147483668) hl0 rfl rfl rfl ci_a228_1 cj_a228_1 L_1
  exact e2_from hen ha hcall (e2_cutA_ok (e2_fa (fun al st E h hc => EN_1 al st E h hc) e2_fz)) (hC []) (X := e2x_82) ex2_82 0 ck_a228_e
/-! a229 X4_losingCells -/
def as_a229 : List ev_V := [(2, 59, 0), (11, 2147483648, 2147483651)]
def E_a229 : e2_E := [(2147483648, 2147583648, 0, 0), (2147483652, 2147483668, 1, 0)]
noncomputable def f_a229 : ev_H := (an870 : e2_Q8)
noncomputable def q_a229_0 : ev_H := (an877 : e2_Q8)
noncomputable def rs_a229 : e2_Rs := [((11, 0, 4294967295), q_a229_0)]
noncomputable def s_a229 : e2_Sm := (83, as_a229, E_a229, f_a229, rs_a229)
noncomputable def S_a229 : List e2_Sm := [s_a194, s_a195]
noncomputable def I_a229 : List e2_In := [(159, 2, e2x_159)]
set_option maxRecDepth 1000000 in
theorem co_a229 : e2_okSB E_a229.length as_a229 f_a229 rs_a229 = true := by decide +kernel
def al_a229_0 : List ev_V := [(2, 59, 0), (11, 2147483648, 2147483651), (11, 0, 4294967295), (11, 0, 4294967295), (1, 2, 4294967296)]
def E_a229_0 : e2_E := [(2147483648, 2147583648, 0, 0), (2147483652, 2147483668, 1, 0), (2147483648, 2147483668, 2, 0)]
noncomputable def h_a229_0 : ev_H := (an877 : e2_Q8)
noncomputable def cl_a229_e : List (Nat × e2_S) := [(15, e2_cutL (al_a229_0.set 4 (11, 2147483648, 2147483668)) 2 (E_a229_0.take 2) h_a229_0)]
set_option maxRecDepth 1000000 in
theorem ck_a229_e : e2_run (e2_cal S_a229 I_a229 4000 1) (e2_fin rs_a229) e2x_83 (e2_bpL cl_a229_e) (e2_cutA cl_a229_e) 4000 (e2_seek e2x_83 0) (e2_al 5 as_a229) [] E_a229 f_a229 = true := by decide +kernel
noncomputable def cl_a229_0 : List (Nat × e2_S) := [(15, e2_cutL (al_a229_0.set 4 (13, 10, 2147483668)) 2 (E_a229_0.take 2) h_a229_0)]
set_option maxRecDepth 1000000 in
theorem ck_a229_0 : e2_runM (e2_cal S_a229 I_a229 4000 1) (e2_fin rs_a229) e2x_83 (e2_bpL cl_a229_0) (e2_cutA cl_a229_0) 4000 (e2_seek e2x_83 15) al_a229_0 [] E_a229_0 h_a229_0 = true := by decide +kernel
set_option maxRecDepth 1000000 in
theorem ci_a229_0 : e2_idl 2 (al_a229_0.set 4 (9, 0, 0)) = true := by decide +kernel
set_option maxRecDepth 1000000 in
theorem cj_a229_0 : e2_idh 2 8 h_a229_0 = true := by decide +kernel
theorem cs_a229 (hen : en_ok) (l : Launch) (hh : e2_hand_a l) : e2_smOk l 63 s_a229 := by
  refine e2_conG (H := 61) (n := 1) (C := evd_83) (S := S_a229) (I := I_a229) (fuel := 4000) hen ei_83 (e2_fa (cs_a194 hen l hh) (e2_fa (cs_a195 hen l hh) e2_fz)) (e2_fa ein_159 e2_fz) (by decide) co_a229 fun M d _ hC hcall p e R s m args below meth c Q D cA A ads r0 ha hl0 => ?_
  have L_0 : e2_gdM M p l e R s m args below meth c Q D cA A ads r0 15 al_a229_0 [] E_a229_0 h_a229_0 := by
    refine e2_indL (u := 2) (j := 4) (lo := 2147483648) (hi := 2147483668) (b := 2) (dd := 0) hl0 (by decide) rfl rfl (Or.inr ⟨rfl, rfl⟩) rfl ci_a229_0 cj_a229_0 ?_
    intro r_0 k_0 hk_0 hp_0 hs_0 hn_0
    have hl_0 : r_0.length ≤ 3 := hs_0.len rfl
    have ha_0 := ha.ext hp_0
    exact e2_fromM hen ha_0 hcall (e2_cutA_ok (e2_fa (fun al st E h hc => hn_0 al st E h hc) e2_fz)) (hC []) (X := e2x_83) ex2_83 15 ck_a229_0
  have EN_0 := e2_entL (u := 2) (j := 4) (lo := 2147483648) (hi := 2147483668) hl0 rfl rfl rfl ci_a229_0 cj_a229_0 L_0
  exact e2_from hen ha hcall (e2_cutA_ok (e2_fa (fun al st E h hc => EN_0 al st E h hc) e2_fz)) (hC []) (X := e2x_83) ex2_83 0 ck_a229_e
