/-! CONTRACTS c, printed by a program -/
/-! c212 X4_placeFrom -/
def as_c212 : List ev_V := [(2, 59, 0), (0, 1, 0), (11, 2147483649, 2147483668), (11, 0, 4294967295)]
def E_c212 : e2_E := [(2147483648, 2147583648, 0, 0), (2147483652, 2147483668, 1, 0)]
def cc187 : ev_C := (4, [(2, 65, 0), (2, 63, 0), (2, 17, 0), (11, 0, 4294967295), (2, 62, 0), (11, 0, 4294967295), (11, 2147483648, 2147483668), (2, 60, 0), (11, 2147483648, 2147483668), (11, 0, 4294967295), (11, 0, 4294967295), (2, 61, 0), (2, 64, 0), (0, 1, 0)])
def cn949 : e2_Q1 := (cc187, cc3)
def cn950 : e2_Q2 := (cn949, cn216)
def cn951 : e2_Q3 := (cn214, cn950)
def cn952 : e2_Q4 := (cn416, cn951)
def cn953 : e2_Q5 := (cn342, cn952)
def cn954 : e2_Q6 := (cn953, cn437)
def cn955 : e2_Q7 := (cn433, cn954)
def cn956 : e2_Q8 := (cn404, cn955)
noncomputable def f_c212 : ev_H := (cn956 : e2_Q8)
noncomputable def q_c212_0 : ev_H := (cn956 : e2_Q8)
noncomputable def rs_c212 : e2_Rs := [((11, 2147483648, 2147483649), q_c212_0)]
noncomputable def s_c212 : e2_Sm := (81, as_c212, E_c212, f_c212, rs_c212)
noncomputable def S_c212 : List e2_Sm := [s_c7]
noncomputable def I_c212 : List e2_In := []
set_option maxRecDepth 1000000 in
theorem ck_c212 : e2_run (e2_cal S_c212 I_c212 4000 0) (e2_fin rs_c212) e2x_81 (fun _ => false) (fun _ _ _ _ _ => false) 4000 (e2_seek e2x_81 0) (e2_al 7 as_c212) [] E_c212 f_c212 = true := by decide +kernel
set_option maxRecDepth 1000000 in
theorem co_c212 : e2_okSB E_c212.length as_c212 f_c212 rs_c212 = true := by decide +kernel
theorem cs_c212 (hen : en_ok) (l : Launch) (hh : e2_hand_c l) : e2_smOk l 61 s_c212 := e2_con0 (H := 60) (n := 0) (C := evd_81) (S := S_c212) (I := I_c212) (fuel := 4000) [60, 62] hen ei_81 (e2_fa (hh _ hm_c7) e2_fz) e2_fz (by decide) co_c212 ex2_81 ck_c212
/-! c213 X4_placeFrom -/
def as_c213 : List ev_V := [(2, 59, 0), (0, 1, 0), (11, 2147483648, 2147483668), (11, 0, 4294967295)]
def E_c213 : e2_E := [(2147483648, 2147583648, 0, 0), (2147483652, 2147483668, 1, 0)]
def cn957 : e2_Q6 := (cn953, cn420)
def cn958 : e2_Q7 := (cn414, cn957)
def cn959 : e2_Q8 := (cn404, cn958)
noncomputable def f_c213 : ev_H := (cn959 : e2_Q8)
noncomputable def q_c213_0 : ev_H := (cn956 : e2_Q8)
noncomputable def q_c213_1 : ev_H := (cn959 : e2_Q8)
noncomputable def rs_c213 : e2_Rs := [((11, 2147483648, 2147483649), q_c213_0), ((0, 0, 0), q_c213_1)]
noncomputable def s_c213 : e2_Sm := (81, as_c213, E_c213, f_c213, rs_c213)
noncomputable def S_c213 : List e2_Sm := [s_c5]
noncomputable def I_c213 : List e2_In := []
set_option maxRecDepth 1000000 in
theorem ck_c213 : e2_run (e2_cal S_c213 I_c213 4000 0) (e2_fin rs_c213) e2x_81 (fun _ => false) (fun _ _ _ _ _ => false) 4000 (e2_seek e2x_81 0) (e2_al 7 as_c213) [] E_c213 f_c213 = true := by decide +kernel
set_option maxRecDepth 1000000 in
theorem co_c213 : e2_okSB E_c213.length as_c213 f_c213 rs_c213 = true := by decide +kernel
theorem cs_c213 (hen : en_ok) (l : Launch) (hh : e2_hand_c l) : e2_smOk l 61 s_c213 := e2_con0 (H := 60) (n := 0) (C := evd_81) (S := S_c213) (I := I_c213) (fuel := 4000) [60, 62] hen ei_81 (e2_fa (hh _ hm_c5) e2_fz) e2_fz (by decide) co_c213 ex2_81 ck_c213
/-! c214 X4_placeFrom -/
def as_c214 : List ev_V := [(2, 59, 0), (0, 0, 0), (0, 0, 0), (0, 0, 0)]
def E_c214 : e2_E := [(2147483648, 2147583648, 0, 0), (2147483652, 2147483668, 1, 0)]
def cc188 : ev_C := (50, [(11, 2147483648, 2147483655), (0, 4294967295, 0), (11, 2147483647, 2147483655)])
def cn960 : e2_Q1 := (cc188, cc3)
def cn961 : e2_Q2 := (cn0, cn960)
def cn962 : e2_Q3 := (cn961, cn5)
def cn963 : e2_Q4 := (cn962, cn13)
def cn964 : e2_Q5 := (cn963, cn378)
def cn965 : e2_Q6 := (cn964, cn908)
def cn966 : e2_Q7 := (cn965, cn403)
def cn967 : e2_Q8 := (cn966, cn958)
noncomputable def f_c214 : ev_H := (cn967 : e2_Q8)
def cn968 : e2_Q8 := (cn966, cn955)
noncomputable def q_c214_0 : ev_H := (cn968 : e2_Q8)
noncomputable def q_c214_1 : ev_H := (cn967 : e2_Q8)
noncomputable def rs_c214 : e2_Rs := [((11, 2147483648, 2147483649), q_c214_0), ((0, 0, 0), q_c214_1)]
noncomputable def s_c214 : e2_Sm := (81, as_c214, E_c214, f_c214, rs_c214)
noncomputable def S_c214 : List e2_Sm := [s_c212, s_c213]
noncomputable def I_c214 : List e2_In := [(64, 2, e2x_64)]
set_option maxRecDepth 1000000 in
theorem co_c214 : e2_okSB E_c214.length as_c214 f_c214 rs_c214 = true := by decide +kernel
def al_c214_0 : List ev_V := [(2, 59, 0), (0, 0, 0), (0, 0, 0), (0, 0, 0), (11, 2147483648, 2147483655), (1, 2, 4294967296), (11, 2147483648, 2147483668)]
def E_c214_0 : e2_E := [(2147483648, 2147583648, 0, 0), (2147483652, 2147483668, 1, 0), (2147483649, 2147483669, 2, 0)]
noncomputable def h_c214_0 : ev_H := (cn968 : e2_Q8)
def al_c214_1 : List ev_V := [(2, 59, 0), (0, 0, 0), (0, 0, 0), (0, 0, 0), (11, 2147483648, 2147483655), (1, 2, 4294967296), (9, 0, 0)]
def E_c214_1 : e2_E := [(2147483648, 2147583648, 0, 0), (2147483652, 2147483668, 1, 0), (2147483648, 2147483669, 2, 0)]
noncomputable def h_c214_1 : ev_H := (cn967 : e2_Q8)
noncomputable def cl_c214_e : List (Nat × e2_S) := [(51, e2_cutL (al_c214_1.set 5 (11, 2147483648, 2147483669)) 2 (E_c214_1.take 2) h_c214_1)]
set_option maxRecDepth 1000000 in
theorem ck_c214_e : e2_run (e2_cal S_c214 I_c214 4000 1) (e2_fin rs_c214) e2x_81 (e2_bpL cl_c214_e) (e2_cutA cl_c214_e) 4000 (e2_seek e2x_81 0) (e2_al 7 as_c214) [] E_c214 f_c214 = true := by decide +kernel
noncomputable def cl_c214_0 : List (Nat × e2_S) := [(51, e2_cutL (al_c214_0.set 5 (13, 10, 2147483669)) 2 (E_c214_0.take 2) h_c214_0)]
set_option maxRecDepth 1000000 in
theorem ck_c214_0 : e2_runM (e2_cal S_c214 I_c214 4000 1) (e2_fin rs_c214) e2x_81 (e2_bpL cl_c214_0) (e2_cutA cl_c214_0) 4000 (e2_seek e2x_81 51) al_c214_0 [] E_c214_0 h_c214_0 = true := by decide +kernel
set_option maxRecDepth 1000000 in
theorem ci_c214_0 : e2_idl 2 (al_c214_0.set 5 (9, 0, 0)) = true := by decide +kernel
set_option maxRecDepth 1000000 in
theorem cj_c214_0 : e2_idh 2 8 h_c214_0 = true := by decide +kernel
noncomputable def cl_c214_1 : List (Nat × e2_S) := [(51, e2_cutL (al_c214_0.set 5 (11, 2147483649, 2147483669)) 2 (E_c214_0.take 2) h_c214_0),
  (51, e2_cutL (al_c214_1.set 5 (13, 10, 2147483669)) 2 (E_c214_1.take 2) h_c214_1)]
set_option maxRecDepth 1000000 in
theorem ck_c214_1 : e2_runM (e2_cal S_c214 I_c214 4000 1) (e2_fin rs_c214) e2x_81 (e2_bpL cl_c214_1) (e2_cutA cl_c214_1) 4000 (e2_seek e2x_81 51) al_c214_1 [] E_c214_1 h_c214_1 = true := by decide +kernel
set_option maxRecDepth 1000000 in
theorem ci_c214_1 : e2_idl 2 (al_c214_1.set 5 (9, 0, 0)) = true := by decide +kernel
set_option maxRecDepth 1000000 in
theorem cj_c214_1 : e2_idh 2 8 h_c214_1 = true := by decide +kernel
theorem cs_c214 (hen : en_ok) (l : Launch) (hh : e2_hand_c l) : e2_smOk l 63 s_c214 := by
  refine e2_conG (H := 61) (n := 1) (C := evd_81) (S := S_c214) (I := I_c214) (fuel := 4000) hen ei_81 (e2_fa (cs_c212 hen l hh) (e2_fa (cs_c213 hen l hh) e2_fz)) (e2_fa ein_64 e2_fz) (by decide) co_c214 fun M d _ hC hcall p e R s m args below meth c Q D cA A ads r0 ha hl0 => ?_
  have L_0 : e2_gdM M p l e R s m args below meth c Q D cA A ads r0 51 al_c214_0 [] E_c214_0 h_c214_0 := by
    refine e2_indL (u := 2) (j := 5) (lo := 2147483649) (hi := 2147483669) (b := 2) (dd := 0) hl0 (by decide) rfl rfl (Or.inr ⟨rfl, rfl⟩) rfl ci_c214_0 cj_c214_0 ?_
    intro r_0 k_0 hk_0 hp_0 hs_0 hn_0
    have hl_0 : r_0.length ≤ 3 := hs_0.len rfl
    have ha_0 := ha.ext hp_0
    exact e2_fromM hen ha_0 hcall (e2_cutA_ok (e2_fa (fun al st E h hc => hn_0 al st E h hc) e2_fz)) (hC [60, 62]) (X := e2x_81) ex2_81 51 ck_c214_0
  have EN_0 := e2_entL (u := 2) (j := 5) (lo := 2147483649) (hi := 2147483669) hl0 rfl rfl rfl ci_c214_0 cj_c214_0 L_0
  have L_1 : e2_gdM M p l e R s m args below meth c Q D cA A ads r0 51 al_c214_1 [] E_c214_1 h_c214_1 := by
    refine e2_indL (u := 2) (j := 5) (lo := 2147483648) (hi := 2147483669) (b := 2) (dd := 0) hl0 (by decide) rfl rfl (Or.inr ⟨rfl, rfl⟩) rfl ci_c214_1 cj_c214_1 ?_
    intro r_1 k_1 hk_1 hp_1 hs_1 hn_1
    have hl_1 : r_1.length ≤ 3 := hs_1.len rfl
    have ha_1 := ha.ext hp_1
    exact e2_fromM hen ha_1 hcall (e2_cutA_ok (e2_fa (fun al st E h hc => (EN_0 al st E h hc).ext hp_1) (e2_fa (fun al st E h hc => hn_1 al st E h hc) e2_fz))) (hC [60, 62]) (X := e2x_81) ex2_81 51 ck_c214_1
  have EN_1 := e2_entL (u := 2) (j := 5) (lo := 2147483648) (hi := 2147483669) hl0 rfl rfl rfl ci_c214_1 cj_c214_1 L_1
  exact e2_from hen ha hcall (e2_cutA_ok (e2_fa (fun al st E h hc => EN_1 al st E h hc) e2_fz)) (hC [60, 62]) (X := e2x_81) ex2_81 0 ck_c214_e
/-! c215 X4_placeFrom -/
def as_c215 : List ev_V := [(2, 59, 0), (0, 2, 0), (11, 2147483649, 2147483668), (11, 0, 4294967295)]
def E_c215 : e2_E := [(2147483648, 2147583648, 0, 0), (2147483652, 2147483668, 1, 0)]
def cc189 : ev_C := (4, [(2, 65, 0), (2, 63, 0), (2, 17, 0), (11, 0, 4294967295), (2, 62, 0), (11, 0, 4294967295), (11, 2147483648, 2147483668), (2, 60, 0), (11, 2147483648, 2147483668), (11, 0, 4294967295), (11, 0, 4294967295), (2, 61, 0), (2, 64, 0), (0, 2, 0)])
def cn969 : e2_Q1 := (cc189, cc3)
def cn970 : e2_Q2 := (cn969, cn216)
def cn971 : e2_Q3 := (cn214, cn970)
def cn972 : e2_Q4 := (cn416, cn971)
def cn973 : e2_Q5 := (cn342, cn972)
def cn974 : e2_Q6 := (cn973, cn437)
def cn975 : e2_Q7 := (cn433, cn974)
def cn976 : e2_Q8 := (cn404, cn975)
noncomputable def f_c215 : ev_H := (cn976 : e2_Q8)
noncomputable def q_c215_0 : ev_H := (cn976 : e2_Q8)
noncomputable def rs_c215 : e2_Rs := [((11, 2147483648, 2147483649), q_c215_0)]
noncomputable def s_c215 : e2_Sm := (81, as_c215, E_c215, f_c215, rs_c215)
noncomputable def S_c215 : List e2_Sm := [s_c7]
noncomputable def I_c215 : List e2_In := []
set_option maxRecDepth 1000000 in
theorem ck_c215 : e2_run (e2_cal S_c215 I_c215 4000 0) (e2_fin rs_c215) e2x_81 (fun _ => false) (fun _ _ _ _ _ => false) 4000 (e2_seek e2x_81 0) (e2_al 7 as_c215) [] E_c215 f_c215 = true := by decide +kernel
set_option maxRecDepth 1000000 in
theorem co_c215 : e2_okSB E_c215.length as_c215 f_c215 rs_c215 = true := by decide +kernel
theorem cs_c215 (hen : en_ok) (l : Launch) (hh : e2_hand_c l) : e2_smOk l 61 s_c215 := e2_con0 (H := 60) (n := 0) (C := evd_81) (S := S_c215) (I := I_c215) (fuel := 4000) [60, 62] hen ei_81 (e2_fa (hh _ hm_c7) e2_fz) e2_fz (by decide) co_c215 ex2_81 ck_c215
/-! c216 X4_placeFrom -/
def as_c216 : List ev_V := [(2, 59, 0), (0, 1, 0), (11, 2147483649, 2147483668), (11, 0, 4294967295)]
def E_c216 : e2_E := [(2147483648, 2147583648, 0, 0), (2147483652, 2147483668, 1, 0)]
def cc190 : ev_C := (50, [(11, 2147483648, 2147483655), (11, 2147483648, 2147483655), (0, 4294967295, 0)])
def cn977 : e2_Q1 := (cc190, cc3)
def cn978 : e2_Q2 := (cn0, cn977)
def cn979 : e2_Q3 := (cn978, cn5)
def cn980 : e2_Q4 := (cn979, cn13)
def cn981 : e2_Q5 := (cn980, cn378)
def cn982 : e2_Q6 := (cn981, cn908)
def cn983 : e2_Q7 := (cn982, cn403)
def cn984 : e2_Q8 := (cn983, cn975)
noncomputable def f_c216 : ev_H := (cn984 : e2_Q8)
noncomputable def q_c216_0 : ev_H := (cn984 : e2_Q8)
noncomputable def rs_c216 : e2_Rs := [((11, 2147483648, 2147483649), q_c216_0)]
noncomputable def s_c216 : e2_Sm := (81, as_c216, E_c216, f_c216, rs_c216)
noncomputable def S_c216 : List e2_Sm := [s_c215]
noncomputable def I_c216 : List e2_In := [(64, 2, e2x_64)]
set_option maxRecDepth 1000000 in
theorem co_c216 : e2_okSB E_c216.length as_c216 f_c216 rs_c216 = true := by decide +kernel
def al_c216_0 : List ev_V := [(2, 59, 0), (0, 1, 0), (11, 2147483649, 2147483668), (11, 0, 4294967295), (11, 2147483648, 2147483655), (1, 2, 4294967296), (9, 0, 0)]
def E_c216_0 : e2_E := [(2147483648, 2147583648, 0, 0), (2147483652, 2147483668, 1, 0), (2147483649, 2147483669, 2, 0)]
noncomputable def h_c216_0 : ev_H := (cn984 : e2_Q8)
noncomputable def cl_c216_e : List (Nat × e2_S) := [(51, e2_cutL (al_c216_0.set 5 (11, 2147483649, 2147483669)) 2 (E_c216_0.take 2) h_c216_0)]
set_option maxRecDepth 1000000 in
theorem ck_c216_e : e2_run (e2_cal S_c216 I_c216 4000 1) (e2_fin rs_c216) e2x_81 (e2_bpL cl_c216_e) (e2_cutA cl_c216_e) 4000 (e2_seek e2x_81 0) (e2_al 7 as_c216) [] E_c216 f_c216 = true := by decide +kernel
noncomputable def cl_c216_0 : List (Nat × e2_S) := [(51, e2_cutL (al_c216_0.set 5 (13, 10, 2147483669)) 2 (E_c216_0.take 2) h_c216_0)]
set_option maxRecDepth 1000000 in
theorem ck_c216_0 : e2_runM (e2_cal S_c216 I_c216 4000 1) (e2_fin rs_c216) e2x_81 (e2_bpL cl_c216_0) (e2_cutA cl_c216_0) 4000 (e2_seek e2x_81 51) al_c216_0 [] E_c216_0 h_c216_0 = true := by decide +kernel
set_option maxRecDepth 1000000 in
theorem ci_c216_0 : e2_idl 2 (al_c216_0.set 5 (9, 0, 0)) = true := by decide +kernel
set_option maxRecDepth 1000000 in
theorem cj_c216_0 : e2_idh 2 8 h_c216_0 = true := by decide +kernel
theorem cs_c216 (hen : en_ok) (l : Launch) (hh : e2_hand_c l) : e2_smOk l 63 s_c216 := by
  refine e2_conG (H := 61) (n := 1) (C := evd_81) (S := S_c216) (I := I_c216) (fuel := 4000) hen ei_81 (e2_fa (cs_c215 hen l hh) e2_fz) (e2_fa ein_64 e2_fz) (by decide) co_c216 fun M d _ hC hcall p e R s m args below meth c Q D cA A ads r0 ha hl0 => ?_
  have L_0 : e2_gdM M p l e R s m args below meth c Q D cA A ads r0 51 al_c216_0 [] E_c216_0 h_c216_0 := by
    refine e2_indL (u := 2) (j := 5) (lo := 2147483649) (hi := 2147483669) (b := 2) (dd := 0) hl0 (by decide) rfl rfl (Or.inr ⟨rfl, rfl⟩) rfl ci_c216_0 cj_c216_0 ?_
    intro r_0 k_0 hk_0 hp_0 hs_0 hn_0
    have hl_0 : r_0.length ≤ 3 := hs_0.len rfl
    have ha_0 := ha.ext hp_0
    exact e2_fromM hen ha_0 hcall (e2_cutA_ok (e2_fa (fun al st E h hc => hn_0 al st E h hc) e2_fz)) (hC [60, 62]) (X := e2x_81) ex2_81 51 ck_c216_0
  have EN_0 := e2_entL (u := 2) (j := 5) (lo := 2147483649) (hi := 2147483669) hl0 rfl rfl rfl ci_c216_0 cj_c216_0 L_0
  exact e2_from hen ha hcall (e2_cutA_ok (e2_fa (fun al st E h hc => EN_0 al st E h hc) e2_fz)) (hC [60, 62]) (X := e2x_81) ex2_81 0 ck_c216_e
/-! c217 X4_placeFrom -/
def as_c217 : List ev_V := [(2, 59, 0), (0, 2, 0), (11, 2147483648, 2147483668), (11, 0, 4294967295)]
def E_c217 : e2_E := [(2147483648, 2147583648, 0, 0), (2147483652, 2147483668, 1, 0)]
def cn985 : e2_Q6 := (cn973, cn420)
def cn986 : e2_Q7 := (cn414, cn985)
def cn987 : e2_Q8 := (cn404, cn986)
noncomputable def f_c217 : ev_H := (cn987 : e2_Q8)
noncomputable def q_c217_0 : ev_H := (cn976 : e2_Q8)
noncomputable def q_c217_1 : ev_H := (cn987 : e2_Q8)
noncomputable def rs_c217 : e2_Rs := [((11, 2147483648, 2147483649), q_c217_0), ((0, 0, 0), q_c217_1)]
noncomputable def s_c217 : e2_Sm := (81, as_c217, E_c217, f_c217, rs_c217)
noncomputable def S_c217 : List e2_Sm := [s_c5]
noncomputable def I_c217 : List e2_In := []
set_option maxRecDepth 1000000 in
theorem ck_c217 : e2_run (e2_cal S_c217 I_c217 4000 0) (e2_fin rs_c217) e2x_81 (fun _ => false) (fun _ _ _ _ _ => false) 4000 (e2_seek e2x_81 0) (e2_al 7 as_c217) [] E_c217 f_c217 = true := by decide +kernel
set_option maxRecDepth 1000000 in
theorem co_c217 : e2_okSB E_c217.length as_c217 f_c217 rs_c217 = true := by decide +kernel
theorem cs_c217 (hen : en_ok) (l : Launch) (hh : e2_hand_c l) : e2_smOk l 61 s_c217 := e2_con0 (H := 60) (n := 0) (C := evd_81) (S := S_c217) (I := I_c217) (fuel := 4000) [60, 62] hen ei_81 (e2_fa (hh _ hm_c5) e2_fz) e2_fz (by decide) co_c217 ex2_81 ck_c217
/-! c218 X4_placeFrom -/
def as_c218 : List ev_V := [(2, 59, 0), (0, 1, 0), (11, 2147483648, 2147483668), (11, 0, 4294967295)]
def E_c218 : e2_E := [(2147483648, 2147583648, 0, 0), (2147483652, 2147483668, 1, 0)]
def cn988 : e2_Q8 := (cn983, cn986)
noncomputable def f_c218 : ev_H := (cn988 : e2_Q8)
noncomputable def q_c218_0 : ev_H := (cn984 : e2_Q8)
noncomputable def q_c218_1 : ev_H := (cn988 : e2_Q8)
noncomputable def rs_c218 : e2_Rs := [((11, 2147483648, 2147483649), q_c218_0), ((0, 0, 0), q_c218_1)]
noncomputable def s_c218 : e2_Sm := (81, as_c218, E_c218, f_c218, rs_c218)
noncomputable def S_c218 : List e2_Sm := [s_c215, s_c217]
noncomputable def I_c218 : List e2_In := [(64, 2, e2x_64)]
set_option maxRecDepth 1000000 in
theorem co_c218 : e2_okSB E_c218.length as_c218 f_c218 rs_c218 = true := by decide +kernel
def al_c218_0 : List ev_V := [(2, 59, 0), (0, 1, 0), (11, 2147483648, 2147483668), (11, 0, 4294967295), (11, 2147483648, 2147483655), (1, 2, 4294967296), (11, 2147483648, 2147483668)]
def E_c218_0 : e2_E := [(2147483648, 2147583648, 0, 0), (2147483652, 2147483668, 1, 0), (2147483649, 2147483669, 2, 0)]
noncomputable def h_c218_0 : ev_H := (cn984 : e2_Q8)
def al_c218_1 : List ev_V := [(2, 59, 0), (0, 1, 0), (11, 2147483648, 2147483668), (11, 0, 4294967295), (11, 2147483648, 2147483655), (1, 2, 4294967296), (9, 0, 0)]
def E_c218_1 : e2_E := [(2147483648, 2147583648, 0, 0), (2147483652, 2147483668, 1, 0), (2147483648, 2147483669, 2, 0)]
noncomputable def h_c218_1 : ev_H := (cn988 : e2_Q8)
noncomputable def cl_c218_e : List (Nat × e2_S) := [(51, e2_cutL (al_c218_1.set 5 (11, 2147483648, 2147483669)) 2 (E_c218_1.take 2) h_c218_1)]
set_option maxRecDepth 1000000 in
theorem ck_c218_e : e2_run (e2_cal S_c218 I_c218 4000 1) (e2_fin rs_c218) e2x_81 (e2_bpL cl_c218_e) (e2_cutA cl_c218_e) 4000 (e2_seek e2x_81 0) (e2_al 7 as_c218) [] E_c218 f_c218 = true := by decide +kernel
noncomputable def cl_c218_0 : List (Nat × e2_S) := [(51, e2_cutL (al_c218_0.set 5 (13, 10, 2147483669)) 2 (E_c218_0.take 2) h_c218_0)]
set_option maxRecDepth 1000000 in
theorem ck_c218_0 : e2_runM (e2_cal S_c218 I_c218 4000 1) (e2_fin rs_c218) e2x_81 (e2_bpL cl_c218_0) (e2_cutA cl_c218_0) 4000 (e2_seek e2x_81 51) al_c218_0 [] E_c218_0 h_c218_0 = true := by decide +kernel
set_option maxRecDepth 1000000 in
theorem ci_c218_0 : e2_idl 2 (al_c218_0.set 5 (9, 0, 0)) = true := by decide +kernel
set_option maxRecDepth 1000000 in
theorem cj_c218_0 : e2_idh 2 8 h_c218_0 = true := by decide +kernel
noncomputable def cl_c218_1 : List (Nat × e2_S) := [(51, e2_cutL (al_c218_0.set 5 (11, 2147483649, 2147483669)) 2 (E_c218_0.take 2) h_c218_0),
  (51, e2_cutL (al_c218_1.set 5 (13, 10, 2147483669)) 2 (E_c218_1.take 2) h_c218_1)]
set_option maxRecDepth 1000000 in
theorem ck_c218_1 : e2_runM (e2_cal S_c218 I_c218 4000 1) (e2_fin rs_c218) e2x_81 (e2_bpL cl_c218_1) (e2_cutA cl_c218_1) 4000 (e2_seek e2x_81 51) al_c218_1 [] E_c218_1 h_c218_1 = true := by decide +kernel
set_option maxRecDepth 1000000 in
theorem ci_c218_1 : e2_idl 2 (al_c218_1.set 5 (9, 0, 0)) = true := by decide +kernel
set_option maxRecDepth 1000000 in
theorem cj_c218_1 : e2_idh 2 8 h_c218_1 = true := by decide +kernel
theorem cs_c218 (hen : en_ok) (l : Launch) (hh : e2_hand_c l) : e2_smOk l 63 s_c218 := by
  refine e2_conG (H := 61) (n := 1) (C := evd_81) (S := S_c218) (I := I_c218) (fuel := 4000) hen ei_81 (e2_fa (cs_c215 hen l hh) (e2_fa (cs_c217 hen l hh) e2_fz)) (e2_fa ein_64 e2_fz) (by decide) co_c218 fun M d _ hC hcall p e R s m args below meth c Q D cA A ads r0 ha hl0 => ?_
  have L_0 : e2_gdM M p l e R s m args below meth c Q D cA A ads r0 51 al_c218_0 [] E_c218_0 h_c218_0 := by
    refine e2_indL (u := 2) (j := 5) (lo := 2147483649) (hi := 2147483669) (b := 2) (dd := 0) hl0 (by decide) rfl rfl (Or.inr ⟨rfl, rfl⟩) rfl ci_c218_0 cj_c218_0 ?_
    intro r_0 k_0 hk_0 hp_0 hs_0 hn_0
    have hl_0 : r_0.length ≤ 3 := hs_0.len rfl
    have ha_0 := ha.ext hp_0
    exact e2_fromM hen ha_0 hcall (e2_cutA_ok (e2_fa (fun al st E h hc => hn_0 al st E h hc) e2_fz)) (hC [60, 62]) (X := e2x_81) ex2_81 51 ck_c218_0
  have EN_0 := e2_entL (u := 2) (j := 5) (lo := 2147483649) (hi := 2147483669) hl0 rfl rfl rfl ci_c218_0 cj_c218_0 L_0
  have L_1 : e2_gdM M p l e R s m args below meth c Q D cA A ads r0 51 al_c218_1 [] E_c218_1 h_c218_1 := by
    refine e2_indL (u := 2) (j := 5) (lo := 2147483648) (hi := 2147483669) (b := 2) (dd := 0) hl0 (by decide) rfl rfl (Or.inr ⟨rfl, rfl⟩) rfl ci_c218_1 cj_c218_1 ?_
    intro r_1 k_1 hk_1 hp_1 hs_1 hn_1
    have hl_1 : r_1.length ≤ 3 := hs_1.len rfl
    have ha_1 := ha.ext hp_1
    exact e2_fromM hen ha_1 hcall (e2_cutA_ok (e2_fa (fun al st E h hc => (EN_0 al st E h hc).ext hp_1) (e2_fa (fun al st E h hc => hn_1 al st E h hc) e2_fz))) (hC [60, 62]) (X := e2x_81) ex2_81 51 ck_c218_1
  have EN_1 := e2_entL (u := 2) (j := 5) (lo := 2147483648) (hi := 2147483669) hl0 rfl rfl rfl ci_c218_1 cj_c218_1 L_1
  exact e2_from hen ha hcall (e2_cutA_ok (e2_fa (fun al st E h hc => EN_1 al st E h hc) e2_fz)) (hC [60, 62]) (X := e2x_81) ex2_81 0 ck_c218_e
/-! c219 X4_placeFrom -/
def as_c219 : List ev_V := [(2, 59, 0), (0, 0, 0), (0, 0, 0), (0, 0, 0)]
def E_c219 : e2_E := [(2147483648, 2147583648, 0, 0), (2147483652, 2147483668, 1, 0)]
noncomputable def f_c219 : ev_H := (cn988 : e2_Q8)
noncomputable def q_c219_0 : ev_H := (cn984 : e2_Q8)
noncomputable def q_c219_1 : ev_H := (cn988 : e2_Q8)
noncomputable def rs_c219 : e2_Rs := [((11, 2147483648, 2147483649), q_c219_0), ((0, 0, 0), q_c219_1)]
noncomputable def s_c219 : e2_Sm := (81, as_c219, E_c219, f_c219, rs_c219)
noncomputable def S_c219 : List e2_Sm := [s_c216, s_c218]
noncomputable def I_c219 : List e2_In := [(64, 2, e2x_64)]
set_option maxRecDepth 1000000 in
theorem co_c219 : e2_okSB E_c219.length as_c219 f_c219 rs_c219 = true := by decide +kernel
def al_c219_0 : List ev_V := [(2, 59, 0), (0, 0, 0), (0, 0, 0), (0, 0, 0), (11, 2147483648, 2147483655), (1, 2, 4294967296), (11, 2147483648, 2147483668)]
def E_c219_0 : e2_E := [(2147483648, 2147583648, 0, 0), (2147483652, 2147483668, 1, 0), (2147483649, 2147483669, 2, 0)]
noncomputable def h_c219_0 : ev_H := (cn984 : e2_Q8)
def al_c219_1 : List ev_V := [(2, 59, 0), (0, 0, 0), (0, 0, 0), (0, 0, 0), (11, 2147483648, 2147483655), (1, 2, 4294967296), (9, 0, 0)]
def E_c219_1 : e2_E := [(2147483648, 2147583648, 0, 0), (2147483652, 2147483668, 1, 0), (2147483648, 2147483669, 2, 0)]
noncomputable def h_c219_1 : ev_H := (cn988 : e2_Q8)
noncomputable def cl_c219_e : List (Nat × e2_S) := [(51, e2_cutL (al_c219_1.set 5 (11, 2147483648, 2147483669)) 2 (E_c219_1.take 2) h_c219_1)]
set_option maxRecDepth 1000000 in
theorem ck_c219_e : e2_run (e2_cal S_c219 I_c219 4000 1) (e2_fin rs_c219) e2x_81 (e2_bpL cl_c219_e) (e2_cutA cl_c219_e) 4000 (e2_seek e2x_81 0) (e2_al 7 as_c219) [] E_c219 f_c219 = true := by decide +kernel
noncomputable def cl_c219_0 : List (Nat × e2_S) := [(51, e2_cutL (al_c219_0.set 5 (13, 10, 2147483669)) 2 (E_c219_0.take 2) h_c219_0)]
set_option maxRecDepth 1000000 in
theorem ck_c219_0 : e2_runM (e2_cal S_c219 I_c219 4000 1) (e2_fin rs_c219) e2x_81 (e2_bpL cl_c219_0) (e2_cutA cl_c219_0) 4000 (e2_seek e2x_81 51) al_c219_0 [] E_c219_0 h_c219_0 = true := by decide +kernel
set_option maxRecDepth 1000000 in
theorem ci_c219_0 : e2_idl 2 (al_c219_0.set 5 (9, 0, 0)) = true := by decide +kernel
set_option maxRecDepth 1000000 in
theorem cj_c219_0 : e2_idh 2 8 h_c219_0 = true := by decide +kernel
noncomputable def cl_c219_1 : List (Nat × e2_S) := [(51, e2_cutL (al_c219_0.set 5 (11, 2147483649, 2147483669)) 2 (E_c219_0.take 2) h_c219_0),
  (51, e2_cutL (al_c219_1.set 5 (13, 10, 2147483669)) 2 (E_c219_1.take 2) h_c219_1)]
set_option maxRecDepth 1000000 in
theorem ck_c219_1 : e2_runM (e2_cal S_c219 I_c219 4000 1) (e2_fin rs_c219) e2x_81 (e2_bpL cl_c219_1) (e2_cutA cl_c219_1) 4000 (e2_seek e2x_81 51) al_c219_1 [] E_c219_1 h_c219_1 = true := by decide +kernel
set_option maxRecDepth 1000000 in
theorem ci_c219_1 : e2_idl 2 (al_c219_1.set 5 (9, 0, 0)) = true := by decide +kernel
set_option maxRecDepth 1000000 in
theorem cj_c219_1 : e2_idh 2 8 h_c219_1 = true := by decide +kernel
theorem cs_c219 (hen : en_ok) (l : Launch) (hh : e2_hand_c l) : e2_smOk l 65 s_c219 := by
  refine e2_conG (H := 63) (n := 1) (C := evd_81) (S := S_c219) (I := I_c219) (fuel := 4000) hen ei_81 (e2_fa (cs_c216 hen l hh) (e2_fa (cs_c218 hen l hh) e2_fz)) (e2_fa ein_64 e2_fz) (by decide) co_c219 fun M d _ hC hcall p e R s m args below meth c Q D cA A ads r0 ha hl0 => ?_
  have L_0 : e2_gdM M p l e R s m args below meth c Q D cA A ads r0 51 al_c219_0 [] E_c219_0 h_c219_0 := by
    refine e2_indL (u := 2) (j := 5) (lo := 2147483649) (hi := 2147483669) (b := 2) (dd := 0) hl0 (by decide) rfl rfl (Or.inr ⟨rfl, rfl⟩) rfl ci_c219_0 cj_c219_0 ?_
    intro r_0 k_0 hk_0 hp_0 hs_0 hn_0
    have hl_0 : r_0.length ≤ 3 := hs_0.len rfl
    have ha_0 := ha.ext hp_0
    exact e2_fromM hen ha_0 hcall (e2_cutA_ok (e2_fa (fun al st E h hc => hn_0 al st E h hc) e2_fz)) (hC [60, 62]) (X := e2x_81) ex2_81 51 ck_c219_0
  have EN_0 := e2_entL (u := 2) (j := 5) (lo := 2147483649) (hi := 2147483669) hl0 rfl rfl rfl ci_c219_0 cj_c219_0 L_0
  have L_1 : e2_gdM M p l e R s m args below meth c Q D cA A ads r0 51 al_c219_1 [] E_c219_1 h_c219_1 := by
    refine e2_indL (u := 2) (j := 5) (lo := 2147483648) (hi := 2147483669) (b := 2) (dd := 0) hl0 (by decide) rfl rfl (Or.inr ⟨rfl, rfl⟩) rfl ci_c219_1 cj_c219_1 ?_
    intro r_1 k_1 hk_1 hp_1 hs_1 hn_1
    have hl_1 : r_1.length ≤ 3 := hs_1.len rfl
    have ha_1 := ha.ext hp_1
    exact e2_fromM hen ha_1 hcall (e2_cutA_ok (e2_fa (fun al st E h hc => (EN_0 al st E h hc).ext hp_1) (e2_fa (fun al st E h hc => hn_1 al st E h hc) e2_fz))) (hC [60, 62]) (X := e2x_81) ex2_81 51 ck_c219_1
  have EN_1 := e2_entL (u := 2) (j := 5) (lo := 2147483648) (hi := 2147483669) hl0 rfl rfl rfl ci_c219_1 cj_c219_1 L_1
  exact e2_from hen ha hcall (e2_cutA_ok (e2_fa (fun al st E h hc => EN_1 al st E h hc) e2_fz)) (hC [60, 62]) (X := e2x_81) ex2_81 0 ck_c219_e
/-! c220 X4_placeFrom -/
def as_c220 : List ev_V := [(2, 59, 0), (0, 3, 0), (11, 2147483649, 2147483668), (11, 0, 4294967295)]
def E_c220 : e2_E := [(2147483648, 2147583648, 0, 0), (2147483652, 2147483668, 1, 0)]
def cc191 : ev_C := (4, [(2, 65, 0), (2, 63, 0), (2, 17, 0), (11, 0, 4294967295), (2, 62, 0), (11, 0, 4294967295), (11, 2147483648, 2147483668), (2, 60, 0), (11, 2147483648, 2147483668), (11, 0, 4294967295), (11, 0, 4294967295), (2, 61, 0), (2, 64, 0), (0, 3, 0)])
def cn989 : e2_Q1 := (cc191, cc3)
def cn990 : e2_Q2 := (cn989, cn216)
def cn991 : e2_Q3 := (cn214, cn990)
def cn992 : e2_Q4 := (cn416, cn991)
def cn993 : e2_Q5 := (cn342, cn992)
def cn994 : e2_Q6 := (cn993, cn437)
def cn995 : e2_Q7 := (cn433, cn994)
def cn996 : e2_Q8 := (cn404, cn995)
noncomputable def f_c220 : ev_H := (cn996 : e2_Q8)
noncomputable def q_c220_0 : ev_H := (cn996 : e2_Q8)
noncomputable def rs_c220 : e2_Rs := [((11, 2147483648, 2147483649), q_c220_0)]
noncomputable def s_c220 : e2_Sm := (81, as_c220, E_c220, f_c220, rs_c220)
noncomputable def S_c220 : List e2_Sm := [s_c7]
noncomputable def I_c220 : List e2_In := []
set_option maxRecDepth 1000000 in
theorem ck_c220 : e2_run (e2_cal S_c220 I_c220 4000 0) (e2_fin rs_c220) e2x_81 (fun _ => false) (fun _ _ _ _ _ => false) 4000 (e2_seek e2x_81 0) (e2_al 7 as_c220) [] E_c220 f_c220 = true := by decide +kernel
set_option maxRecDepth 1000000 in
theorem co_c220 : e2_okSB E_c220.length as_c220 f_c220 rs_c220 = true := by decide +kernel
theorem cs_c220 (hen : en_ok) (l : Launch) (hh : e2_hand_c l) : e2_smOk l 61 s_c220 := e2_con0 (H := 60) (n := 0) (C := evd_81) (S := S_c220) (I := I_c220) (fuel := 4000) [60, 62] hen ei_81 (e2_fa (hh _ hm_c7) e2_fz) e2_fz (by decide) co_c220 ex2_81 ck_c220
/-! c221 X4_placeFrom -/
def as_c221 : List ev_V := [(2, 59, 0), (0, 2, 0), (11, 2147483649, 2147483668), (11, 0, 4294967295)]
def E_c221 : e2_E := [(2147483648, 2147583648, 0, 0), (2147483652, 2147483668, 1, 0)]
def cc192 : ev_C := (50, [(11, 2147483648, 2147483655), (11, 2147483648, 2147483655), (11, 2147483648, 2147483655)])
def cn997 : e2_Q1 := (cc192, cc3)
def cn998 : e2_Q2 := (cn0, cn997)
def cn999 : e2_Q3 := (cn998, cn5)
def cn1000 : e2_Q4 := (cn999, cn13)
def cn1001 : e2_Q5 := (cn1000, cn378)
def cn1002 : e2_Q6 := (cn1001, cn908)
def cn1003 : e2_Q7 := (cn1002, cn403)
def cn1004 : e2_Q8 := (cn1003, cn995)
noncomputable def f_c221 : ev_H := (cn1004 : e2_Q8)
noncomputable def q_c221_0 : ev_H := (cn1004 : e2_Q8)
noncomputable def rs_c221 : e2_Rs := [((11, 2147483648, 2147483649), q_c221_0)]
noncomputable def s_c221 : e2_Sm := (81, as_c221, E_c221, f_c221, rs_c221)
noncomputable def S_c221 : List e2_Sm := [s_c220]
noncomputable def I_c221 : List e2_In := [(64, 2, e2x_64)]
set_option maxRecDepth 1000000 in
theorem co_c221 : e2_okSB E_c221.length as_c221 f_c221 rs_c221 = true := by decide +kernel
def al_c221_0 : List ev_V := [(2, 59, 0), (0, 2, 0), (11, 2147483649, 2147483668), (11, 0, 4294967295), (11, 2147483648, 2147483655), (1, 2, 4294967296), (9, 0, 0)]
def E_c221_0 : e2_E := [(2147483648, 2147583648, 0, 0), (2147483652, 2147483668, 1, 0), (2147483649, 2147483669, 2, 0)]
noncomputable def h_c221_0 : ev_H := (cn1004 : e2_Q8)
noncomputable def cl_c221_e : List (Nat × e2_S) := [(51, e2_cutL (al_c221_0.set 5 (11, 2147483649, 2147483669)) 2 (E_c221_0.take 2) h_c221_0)]
set_option maxRecDepth 1000000 in
theorem ck_c221_e : e2_run (e2_cal S_c221 I_c221 4000 1) (e2_fin rs_c221) e2x_81 (e2_bpL cl_c221_e) (e2_cutA cl_c221_e) 4000 (e2_seek e2x_81 0) (e2_al 7 as_c221) [] E_c221 f_c221 = true := by decide +kernel
noncomputable def cl_c221_0 : List (Nat × e2_S) := [(51, e2_cutL (al_c221_0.set 5 (13, 10, 2147483669)) 2 (E_c221_0.take 2) h_c221_0)]
set_option maxRecDepth 1000000 in
theorem ck_c221_0 : e2_runM (e2_cal S_c221 I_c221 4000 1) (e2_fin rs_c221) e2x_81 (e2_bpL cl_c221_0) (e2_cutA cl_c221_0) 4000 (e2_seek e2x_81 51) al_c221_0 [] E_c221_0 h_c221_0 = true := by decide +kernel
set_option maxRecDepth 1000000 in
theorem ci_c221_0 : e2_idl 2 (al_c221_0.set 5 (9, 0, 0)) = true := by decide +kernel
set_option maxRecDepth 1000000 in
theorem cj_c221_0 : e2_idh 2 8 h_c221_0 = true := by decide +kernel
theorem cs_c221 (hen : en_ok) (l : Launch) (hh : e2_hand_c l) : e2_smOk l 63 s_c221 := by
  refine e2_conG (H := 61) (n := 1) (C := evd_81) (S := S_c221) (I := I_c221) (fuel := 4000) hen ei_81 (e2_fa (cs_c220 hen l hh) e2_fz) (e2_fa ein_64 e2_fz) (by decide) co_c221 fun M d _ hC hcall p e R s m args below meth c Q D cA A ads r0 ha hl0 => ?_
  have L_0 : e2_gdM M p l e R s m args below meth c Q D cA A ads r0 51 al_c221_0 [] E_c221_0 h_c221_0 := by
    refine e2_indL (u := 2) (j := 5) (lo := 2147483649) (hi := 2147483669) (b := 2) (dd := 0) hl0 (by decide) rfl rfl (Or.inr ⟨rfl, rfl⟩) rfl ci_c221_0 cj_c221_0 ?_
    intro r_0 k_0 hk_0 hp_0 hs_0 hn_0
    have hl_0 : r_0.length ≤ 3 := hs_0.len rfl
    have ha_0 := ha.ext hp_0
    exact e2_fromM hen ha_0 hcall (e2_cutA_ok (e2_fa (fun al st E h hc => hn_0 al st E h hc) e2_fz)) (hC [60, 62]) (X := e2x_81) ex2_81 51 ck_c221_0
  have EN_0 := e2_entL (u := 2) (j := 5) (lo := 2147483649) (hi := 2147483669) hl0 rfl rfl rfl ci_c221_0 cj_c221_0 L_0
  exact e2_from hen ha hcall (e2_cutA_ok (e2_fa (fun al st E h hc => EN_0 al st E h hc) e2_fz)) (hC [60, 62]) (X := e2x_81) ex2_81 0 ck_c221_e
/-! c222 X4_placeFrom -/
def as_c222 : List ev_V := [(2, 59, 0), (0, 1, 0), (11, 2147483649, 2147483668), (11, 0, 4294967295)]
def E_c222 : e2_E := [(2147483648, 2147583648, 0, 0), (2147483652, 2147483668, 1, 0)]
noncomputable def f_c222 : ev_H := (cn1004 : e2_Q8)
noncomputable def q_c222_0 : ev_H := (cn1004 : e2_Q8)
noncomputable def rs_c222 : e2_Rs := [((11, 2147483648, 2147483649), q_c222_0)]
noncomputable def s_c222 : e2_Sm := (81, as_c222, E_c222, f_c222, rs_c222)
noncomputable def S_c222 : List e2_Sm := [s_c221]
noncomputable def I_c222 : List e2_In := [(64, 2, e2x_64)]
set_option maxRecDepth 1000000 in
theorem co_c222 : e2_okSB E_c222.length as_c222 f_c222 rs_c222 = true := by decide +kernel
def al_c222_0 : List ev_V := [(2, 59, 0), (0, 1, 0), (11, 2147483649, 2147483668), (11, 0, 4294967295), (11, 2147483648, 2147483655), (1, 2, 4294967296), (9, 0, 0)]
def E_c222_0 : e2_E := [(2147483648, 2147583648, 0, 0), (2147483652, 2147483668, 1, 0), (2147483649, 2147483669, 2, 0)]
noncomputable def h_c222_0 : ev_H := (cn1004 : e2_Q8)
noncomputable def cl_c222_e : List (Nat × e2_S) := [(51, e2_cutL (al_c222_0.set 5 (11, 2147483649, 2147483669)) 2 (E_c222_0.take 2) h_c222_0)]
set_option maxRecDepth 1000000 in
theorem ck_c222_e : e2_run (e2_cal S_c222 I_c222 4000 1) (e2_fin rs_c222) e2x_81 (e2_bpL cl_c222_e) (e2_cutA cl_c222_e) 4000 (e2_seek e2x_81 0) (e2_al 7 as_c222) [] E_c222 f_c222 = true := by decide +kernel
noncomputable def cl_c222_0 : List (Nat × e2_S) := [(51, e2_cutL (al_c222_0.set 5 (13, 10, 2147483669)) 2 (E_c222_0.take 2) h_c222_0)]
set_option maxRecDepth 1000000 in
theorem ck_c222_0 : e2_runM (e2_cal S_c222 I_c222 4000 1) (e2_fin rs_c222) e2x_81 (e2_bpL cl_c222_0) (e2_cutA cl_c222_0) 4000 (e2_seek e2x_81 51) al_c222_0 [] E_c222_0 h_c222_0 = true := by decide +kernel
set_option maxRecDepth 1000000 in
theorem ci_c222_0 : e2_idl 2 (al_c222_0.set 5 (9, 0, 0)) = true := by decide +kernel
set_option maxRecDepth 1000000 in
theorem cj_c222_0 : e2_idh 2 8 h_c222_0 = true := by decide +kernel
theorem cs_c222 (hen : en_ok) (l : Launch) (hh : e2_hand_c l) : e2_smOk l 65 s_c222 := by
  refine e2_conG (H := 63) (n := 1) (C := evd_81) (S := S_c222) (I := I_c222) (fuel := 4000) hen ei_81 (e2_fa (cs_c221 hen l hh) e2_fz) (e2_fa ein_64 e2_fz) (by decide) co_c222 fun M d _ hC hcall p e R s m args below meth c Q D cA A ads r0 ha hl0 => ?_
  have L_0 : e2_gdM M p l e R s m args below meth c Q D cA A ads r0 51 al_c222_0 [] E_c222_0 h_c222_0 := by
    refine e2_indL (u := 2) (j := 5) (lo := 2147483649) (hi := 2147483669) (b := 2) (dd := 0) hl0 (by decide) rfl rfl (Or.inr ⟨rfl, rfl⟩) rfl ci_c222_0 cj_c222_0 ?_
    intro r_0 k_0 hk_0 hp_0 hs_0 hn_0
    have hl_0 : r_0.length ≤ 3 := hs_0.len rfl
    have ha_0 := ha.ext hp_0
    exact e2_fromM hen ha_0 hcall (e2_cutA_ok (e2_fa (fun al st E h hc => hn_0 al st E h hc) e2_fz)) (hC [60, 62]) (X := e2x_81) ex2_81 51 ck_c222_0
  have EN_0 := e2_entL (u := 2) (j := 5) (lo := 2147483649) (hi := 2147483669) hl0 rfl rfl rfl ci_c222_0 cj_c222_0 L_0
  exact e2_from hen ha hcall (e2_cutA_ok (e2_fa (fun al st E h hc => EN_0 al st E h hc) e2_fz)) (hC [60, 62]) (X := e2x_81) ex2_81 0 ck_c222_e
/-! c223 X4_placeFrom -/
def as_c223 : List ev_V := [(2, 59, 0), (0, 3, 0), (11, 2147483648, 2147483668), (11, 0, 4294967295)]
def E_c223 : e2_E := [(2147483648, 2147583648, 0, 0), (2147483652, 2147483668, 1, 0)]
def cn1005 : e2_Q6 := (cn993, cn420)
def cn1006 : e2_Q7 := (cn414, cn1005)
def cn1007 : e2_Q8 := (cn404, cn1006)
noncomputable def f_c223 : ev_H := (cn1007 : e2_Q8)
noncomputable def q_c223_0 : ev_H := (cn996 : e2_Q8)
noncomputable def q_c223_1 : ev_H := (cn1007 : e2_Q8)
noncomputable def rs_c223 : e2_Rs := [((11, 2147483648, 2147483649), q_c223_0), ((0, 0, 0), q_c223_1)]
noncomputable def s_c223 : e2_Sm := (81, as_c223, E_c223, f_c223, rs_c223)
noncomputable def S_c223 : List e2_Sm := [s_c5]
noncomputable def I_c223 : List e2_In := []
set_option maxRecDepth 1000000 in
theorem ck_c223 : e2_run (e2_cal S_c223 I_c223 4000 0) (e2_fin rs_c223) e2x_81 (fun _ => false) (fun _ _ _ _ _ => false) 4000 (e2_seek e2x_81 0) (e2_al 7 as_c223) [] E_c223 f_c223 = true := by decide +kernel
set_option maxRecDepth 1000000 in
theorem co_c223 : e2_okSB E_c223.length as_c223 f_c223 rs_c223 = true := by decide +kernel
theorem cs_c223 (hen : en_ok) (l : Launch) (hh : e2_hand_c l) : e2_smOk l 61 s_c223 := e2_con0 (H := 60) (n := 0) (C := evd_81) (S := S_c223) (I := I_c223) (fuel := 4000) [60, 62] hen ei_81 (e2_fa (hh _ hm_c5) e2_fz) e2_fz (by decide) co_c223 ex2_81 ck_c223
/-! c224 X4_placeFrom -/
def as_c224 : List ev_V := [(2, 59, 0), (0, 2, 0), (11, 2147483648, 2147483668), (11, 0, 4294967295)]
def E_c224 : e2_E := [(2147483648, 2147583648, 0, 0), (2147483652, 2147483668, 1, 0)]
def cn1008 : e2_Q8 := (cn1003, cn1006)
noncomputable def f_c224 : ev_H := (cn1008 : e2_Q8)
noncomputable def q_c224_0 : ev_H := (cn1004 : e2_Q8)
noncomputable def q_c224_1 : ev_H := (cn1008 : e2_Q8)
noncomputable def rs_c224 : e2_Rs := [((11, 2147483648, 2147483649), q_c224_0), ((0, 0, 0), q_c224_1)]
noncomputable def s_c224 : e2_Sm := (81, as_c224, E_c224, f_c224, rs_c224)
noncomputable def S_c224 : List e2_Sm := [s_c220, s_c223]
noncomputable def I_c224 : List e2_In := [(64, 2, e2x_64)]
set_option maxRecDepth 1000000 in
theorem co_c224 : e2_okSB E_c224.length as_c224 f_c224 rs_c224 = true := by decide +kernel
def al_c224_0 : List ev_V := [(2, 59, 0), (0, 2, 0), (11, 2147483648, 2147483668), (11, 0, 4294967295), (11, 2147483648, 2147483655), (1, 2, 4294967296), (11, 2147483648, 2147483668)]
def E_c224_0 : e2_E := [(2147483648, 2147583648, 0, 0), (2147483652, 2147483668, 1, 0), (2147483649, 2147483669, 2, 0)]
noncomputable def h_c224_0 : ev_H := (cn1004 : e2_Q8)
def al_c224_1 : List ev_V := [(2, 59, 0), (0, 2, 0), (11, 2147483648, 2147483668), (11, 0, 4294967295), (11, 2147483648, 2147483655), (1, 2, 4294967296), (9, 0, 0)]
def E_c224_1 : e2_E := [(2147483648, 2147583648, 0, 0), (2147483652, 2147483668, 1, 0), (2147483648, 2147483669, 2, 0)]
noncomputable def h_c224_1 : ev_H := (cn1008 : e2_Q8)
noncomputable def cl_c224_e : List (Nat × e2_S) := [(51, e2_cutL (al_c224_1.set 5 (11, 2147483648, 2147483669)) 2 (E_c224_1.take 2) h_c224_1)]
set_option maxRecDepth 1000000 in
theorem ck_c224_e : e2_run (e2_cal S_c224 I_c224 4000 1) (e2_fin rs_c224) e2x_81 (e2_bpL cl_c224_e) (e2_cutA cl_c224_e) 4000 (e2_seek e2x_81 0) (e2_al 7 as_c224) [] E_c224 f_c224 = true := by decide +kernel
noncomputable def cl_c224_0 : List (Nat × e2_S) := [(51, e2_cutL (al_c224_0.set 5 (13, 10, 2147483669)) 2 (E_c224_0.take 2) h_c224_0)]
set_option maxRecDepth 1000000 in
theorem ck_c224_0 : e2_runM (e2_cal S_c224 I_c224 4000 1) (e2_fin rs_c224) e2x_81 (e2_bpL cl_c224_0) (e2_cutA cl_c224_0) 4000 (e2_seek e2x_81 51) al_c224_0 [] E_c224_0 h_c224_0 = true := by decide +kernel
set_option maxRecDepth 1000000 in
theorem ci_c224_0 : e2_idl 2 (al_c224_0.set 5 (9, 0, 0)) = true := by decide +kernel
set_option maxRecDepth 1000000 in
theorem cj_c224_0 : e2_idh 2 8 h_c224_0 = true := by decide +kernel
noncomputable def cl_c224_1 : List (Nat × e2_S) := [(51, e2_cutL (al_c224_0.set 5 (11, 2147483649, 2147483669)) 2 (E_c224_0.take 2) h_c224_0),
  (51, e2_cutL (al_c224_1.set 5 (13, 10, 2147483669)) 2 (E_c224_1.take 2) h_c224_1)]
set_option maxRecDepth 1000000 in
theorem ck_c224_1 : e2_runM (e2_cal S_c224 I_c224 4000 1) (e2_fin rs_c224) e2x_81 (e2_bpL cl_c224_1) (e2_cutA cl_c224_1) 4000 (e2_seek e2x_81 51) al_c224_1 [] E_c224_1 h_c224_1 = true := by decide +kernel
set_option maxRecDepth 1000000 in
theorem ci_c224_1 : e2_idl 2 (al_c224_1.set 5 (9, 0, 0)) = true := by decide +kernel
set_option maxRecDepth 1000000 in
theorem cj_c224_1 : e2_idh 2 8 h_c224_1 = true := by decide +kernel
theorem cs_c224 (hen : en_ok) (l : Launch) (hh : e2_hand_c l) : e2_smOk l 63 s_c224 := by
  refine e2_conG (H := 61) (n := 1) (C := evd_81) (S := S_c224) (I := I_c224) (fuel := 4000) hen ei_81 (e2_fa (cs_c220 hen l hh) (e2_fa (cs_c223 hen l hh) e2_fz)) (e2_fa ein_64 e2_fz) (by decide) co_c224 fun M d _ hC hcall p e R s m args below meth c Q D cA A ads r0 ha hl0 => ?_
  have L_0 : e2_gdM M p l e R s m args below meth c Q D cA A ads r0 51 al_c224_0 [] E_c224_0 h_c224_0 := by
    refine e2_indL (u := 2) (j := 5) (lo := 2147483649) (hi := 2147483669) (b := 2) (dd := 0) hl0 (by decide) rfl rfl (Or.inr ⟨rfl, rfl⟩) rfl ci_c224_0 cj_c224_0 ?_
    intro r_0 k_0 hk_0 hp_0 hs_0 hn_0
    have hl_0 : r_0.length ≤ 3 := hs_0.len rfl
    have ha_0 := ha.ext hp_0
    exact e2_fromM hen ha_0 hcall (e2_cutA_ok (e2_fa (fun al st E h hc => hn_0 al st E h hc) e2_fz)) (hC [60, 62]) (X := e2x_81) ex2_81 51 ck_c224_0
  have EN_0 := e2_entL (u := 2) (j := 5) (lo := 2147483649) (hi := 2147483669) hl0 rfl rfl rfl ci_c224_0 cj_c224_0 L_0
  have L_1 : e2_gdM M p l e R s m args below meth c Q D cA A ads r0 51 al_c224_1 [] E_c224_1 h_c224_1 := by
    refine e2_indL (u := 2) (j := 5) (lo := 2147483648) (hi := 2147483669) (b := 2) (dd := 0) hl0 (by decide) rfl rfl (Or.inr ⟨rfl, rfl⟩) rfl ci_c224_1 cj_c224_1 ?_
    intro r_1 k_1 hk_1 hp_1 hs_1 hn_1
    have hl_1 : r_1.length ≤ 3 := hs_1.len rfl
    have ha_1 := ha.ext hp_1
    exact e2_fromM hen ha_1 hcall (e2_cutA_ok (e2_fa (fun al st E h hc => (EN_0 al st E h hc).ext hp_1) (e2_fa (fun al st E h hc => hn_1 al st E h hc) e2_fz))) (hC [60, 62]) (X := e2x_81) ex2_81 51 ck_c224_1
  have EN_1 := e2_entL (u := 2) (j := 5) (lo := 2147483648) (hi := 2147483669) hl0 rfl rfl rfl ci_c224_1 cj_c224_1 L_1
  exact e2_from hen ha hcall (e2_cutA_ok (e2_fa (fun al st E h hc => EN_1 al st E h hc) e2_fz)) (hC [60, 62]) (X := e2x_81) ex2_81 0 ck_c224_e
/-! c225 X4_placeFrom -/
def as_c225 : List ev_V := [(2, 59, 0), (0, 1, 0), (11, 2147483648, 2147483668), (11, 0, 4294967295)]
def E_c225 : e2_E := [(2147483648, 2147583648, 0, 0), (2147483652, 2147483668, 1, 0)]
noncomputable def f_c225 : ev_H := (cn1008 : e2_Q8)
noncomputable def q_c225_0 : ev_H := (cn1004 : e2_Q8)
noncomputable def q_c225_1 : ev_H := (cn1008 : e2_Q8)
noncomputable def rs_c225 : e2_Rs := [((11, 2147483648, 2147483649), q_c225_0), ((0, 0, 0), q_c225_1)]
noncomputable def s_c225 : e2_Sm := (81, as_c225, E_c225, f_c225, rs_c225)
noncomputable def S_c225 : List e2_Sm := [s_c221, s_c224]
noncomputable def I_c225 : List e2_In := [(64, 2, e2x_64)]
set_option maxRecDepth 1000000 in
theorem co_c225 : e2_okSB E_c225.length as_c225 f_c225 rs_c225 = true := by decide +kernel
def al_c225_0 : List ev_V := [(2, 59, 0), (0, 1, 0), (11, 2147483648, 2147483668), (11, 0, 4294967295), (11, 2147483648, 2147483655), (1, 2, 4294967296), (11, 2147483648, 2147483668)]
def E_c225_0 : e2_E := [(2147483648, 2147583648, 0, 0), (2147483652, 2147483668, 1, 0), (2147483649, 2147483669, 2, 0)]
noncomputable def h_c225_0 : ev_H := (cn1004 : e2_Q8)
def al_c225_1 : List ev_V := [(2, 59, 0), (0, 1, 0), (11, 2147483648, 2147483668), (11, 0, 4294967295), (11, 2147483648, 2147483655), (1, 2, 4294967296), (9, 0, 0)]
def E_c225_1 : e2_E := [(2147483648, 2147583648, 0, 0), (2147483652, 2147483668, 1, 0), (2147483648, 2147483669, 2, 0)]
noncomputable def h_c225_1 : ev_H := (cn1008 : e2_Q8)
noncomputable def cl_c225_e : List (Nat × e2_S) := [(51, e2_cutL (al_c225_1.set 5 (11, 2147483648, 2147483669)) 2 (E_c225_1.take 2) h_c225_1)]
set_option maxRecDepth 1000000 in
theorem ck_c225_e : e2_run (e2_cal S_c225 I_c225 4000 1) (e2_fin rs_c225) e2x_81 (e2_bpL cl_c225_e) (e2_cutA cl_c225_e) 4000 (e2_seek e2x_81 0) (e2_al 7 as_c225) [] E_c225 f_c225 = true := by decide +kernel
noncomputable def cl_c225_0 : List (Nat × e2_S) := [(51, e2_cutL (al_c225_0.set 5 (13, 10, 2147483669)) 2 (E_c225_0.take 2) h_c225_0)]
set_option maxRecDepth 1000000 in
theorem ck_c225_0 : e2_runM (e2_cal S_c225 I_c225 4000 1) (e2_fin rs_c225) e2x_81 (e2_bpL cl_c225_0) (e2_cutA cl_c225_0) 4000 (e2_seek e2x_81 51) al_c225_0 [] E_c225_0 h_c225_0 = true := by decide +kernel
set_option maxRecDepth 1000000 in
theorem ci_c225_0 : e2_idl 2 (al_c225_0.set 5 (9, 0, 0)) = true := by decide +kernel
set_option maxRecDepth 1000000 in
theorem cj_c225_0 : e2_idh 2 8 h_c225_0 = true := by decide +kernel
noncomputable def cl_c225_1 : List (Nat × e2_S) := [(51, e2_cutL (al_c225_0.set 5 (11, 2147483649, 2147483669)) 2 (E_c225_0.take 2) h_c225_0),
  (51, e2_cutL (al_c225_1.set 5 (13, 10, 2147483669)) 2 (E_c225_1.take 2) h_c225_1)]
set_option maxRecDepth 1000000 in
theorem ck_c225_1 : e2_runM (e2_cal S_c225 I_c225 4000 1) (e2_fin rs_c225) e2x_81 (e2_bpL cl_c225_1) (e2_cutA cl_c225_1) 4000 (e2_seek e2x_81 51) al_c225_1 [] E_c225_1 h_c225_1 = true := by decide +kernel
set_option maxRecDepth 1000000 in
theorem ci_c225_1 : e2_idl 2 (al_c225_1.set 5 (9, 0, 0)) = true := by decide +kernel
set_option maxRecDepth 1000000 in
theorem cj_c225_1 : e2_idh 2 8 h_c225_1 = true := by decide +kernel
theorem cs_c225 (hen : en_ok) (l : Launch) (hh : e2_hand_c l) : e2_smOk l 65 s_c225 := by
  refine e2_conG (H := 63) (n := 1) (C := evd_81) (S := S_c225) (I := I_c225) (fuel := 4000) hen ei_81 (e2_fa (cs_c221 hen l hh) (e2_fa (cs_c224 hen l hh) e2_fz)) (e2_fa ein_64 e2_fz) (by decide) co_c225 fun M d _ hC hcall p e R s m args below meth c Q D cA A ads r0 ha hl0 => ?_
  have L_0 : e2_gdM M p l e R s m args below meth c Q D cA A ads r0 51 al_c225_0 [] E_c225_0 h_c225_0 := by
    refine e2_indL (u := 2) (j := 5) (lo := 2147483649) (hi := 2147483669) (b := 2) (dd := 0) hl0 (by decide) rfl rfl (Or.inr ⟨rfl, rfl⟩) rfl ci_c225_0 cj_c225_0 ?_
    intro r_0 k_0 hk_0 hp_0 hs_0 hn_0
    have hl_0 : r_0.length ≤ 3 := hs_0.len rfl
    have ha_0 := ha.ext hp_0
    exact e2_fromM hen ha_0 hcall (e2_cutA_ok (e2_fa (fun al st E h hc => hn_0 al st E h hc) e2_fz)) (hC [60, 62]) (X := e2x_81) ex2_81 51 ck_c225_0
  have EN_0 := e2_entL (u := 2) (j := 5) (lo := 2147483649) (hi := 2147483669) hl0 rfl rfl rfl ci_c225_0 cj_c225_0 L_0
  have L_1 : e2_gdM M p l e R s m args below meth c Q D cA A ads r0 51 al_c225_1 [] E_c225_1 h_c225_1 := by
    refine e2_indL (u := 2) (j := 5) (lo := 2147483648) (hi := 2147483669) (b := 2) (dd := 0) hl0 (by decide) rfl rfl (Or.inr ⟨rfl, rfl⟩) rfl ci_c225_1 cj_c225_1 ?_
    intro r_1 k_1 hk_1 hp_1 hs_1 hn_1
    have hl_1 : r_1.length ≤ 3 := hs_1.len rfl
    have ha_1 := ha.ext hp_1
    exact e2_fromM hen ha_1 hcall (e2_cutA_ok (e2_fa (fun al st E h hc => (EN_0 al st E h hc).ext hp_1) (e2_fa (fun al st E h hc => hn_1 al st E h hc) e2_fz))) (hC [60, 62]) (X := e2x_81) ex2_81 51 ck_c225_1
  have EN_1 := e2_entL (u := 2) (j := 5) (lo := 2147483648) (hi := 2147483669) hl0 rfl rfl rfl ci_c225_1 cj_c225_1 L_1
  exact e2_from hen ha hcall (e2_cutA_ok (e2_fa (fun al st E h hc => EN_1 al st E h hc) e2_fz)) (hC [60, 62]) (X := e2x_81) ex2_81 0 ck_c225_e
/-! c226 X4_placeFrom -/
def as_c226 : List ev_V := [(2, 59, 0), (0, 0, 0), (0, 0, 0), (0, 0, 0)]
def E_c226 : e2_E := [(2147483648, 2147583648, 0, 0), (2147483652, 2147483668, 1, 0)]
noncomputable def f_c226 : ev_H := (cn1008 : e2_Q8)
noncomputable def q_c226_0 : ev_H := (cn1004 : e2_Q8)
noncomputable def q_c226_1 : ev_H := (cn1008 : e2_Q8)
noncomputable def rs_c226 : e2_Rs := [((11, 2147483648, 2147483649), q_c226_0), ((0, 0, 0), q_c226_1)]
noncomputable def s_c226 : e2_Sm := (81, as_c226, E_c226, f_c226, rs_c226)
noncomputable def S_c226 : List e2_Sm := [s_c222, s_c225]
noncomputable def I_c226 : List e2_In := [(64, 2, e2x_64)]
set_option maxRecDepth 1000000 in
theorem co_c226 : e2_okSB E_c226.length as_c226 f_c226 rs_c226 = true := by decide +kernel
def al_c226_0 : List ev_V := [(2, 59, 0), (0, 0, 0), (0, 0, 0), (0, 0, 0), (11, 2147483648, 2147483655), (1, 2, 4294967296), (11, 2147483648, 2147483668)]
def E_c226_0 : e2_E := [(2147483648, 2147583648, 0, 0), (2147483652, 2147483668, 1, 0), (2147483649, 2147483669, 2, 0)]
noncomputable def h_c226_0 : ev_H := (cn1004 : e2_Q8)
def al_c226_1 : List ev_V := [(2, 59, 0), (0, 0, 0), (0, 0, 0), (0, 0, 0), (11, 2147483648, 2147483655), (1, 2, 4294967296), (9, 0, 0)]
def E_c226_1 : e2_E := [(2147483648, 2147583648, 0, 0), (2147483652, 2147483668, 1, 0), (2147483648, 2147483669, 2, 0)]
noncomputable def h_c226_1 : ev_H := (cn1008 : e2_Q8)
noncomputable def cl_c226_e : List (Nat × e2_S) := [(51, e2_cutL (al_c226_1.set 5 (11, 2147483648, 2147483669)) 2 (E_c226_1.take 2) h_c226_1)]
set_option maxRecDepth 1000000 in
theorem ck_c226_e : e2_run (e2_cal S_c226 I_c226 4000 1) (e2_fin rs_c226) e2x_81 (e2_bpL cl_c226_e) (e2_cutA cl_c226_e) 4000 (e2_seek e2x_81 0) (e2_al 7 as_c226) [] E_c226 f_c226 = true := by decide +kernel
noncomputable def cl_c226_0 : List (Nat × e2_S) := [(51, e2_cutL (al_c226_0.set 5 (13, 10, 2147483669)) 2 (E_c226_0.take 2) h_c226_0)]
set_option maxRecDepth 1000000 in
theorem ck_c226_0 : e2_runM (e2_cal S_c226 I_c226 4000 1) (e2_fin rs_c226) e2x_81 (e2_bpL cl_c226_0) (e2_cutA cl_c226_0) 4000 (e2_seek e2x_81 51) al_c226_0 [] E_c226_0 h_c226_0 = true := by decide +kernel
set_option maxRecDepth 1000000 in
theorem ci_c226_0 : e2_idl 2 (al_c226_0.set 5 (9, 0, 0)) = true := by decide +kernel
set_option maxRecDepth 1000000 in
theorem cj_c226_0 : e2_idh 2 8 h_c226_0 = true := by decide +kernel
noncomputable def cl_c226_1 : List (Nat × e2_S) := [(51, e2_cutL (al_c226_0.set 5 (11, 2147483649, 2147483669)) 2 (E_c226_0.take 2) h_c226_0),
  (51, e2_cutL (al_c226_1.set 5 (13, 10, 2147483669)) 2 (E_c226_1.take 2) h_c226_1)]
set_option maxRecDepth 1000000 in
theorem ck_c226_1 : e2_runM (e2_cal S_c226 I_c226 4000 1) (e2_fin rs_c226) e2x_81 (e2_bpL cl_c226_1) (e2_cutA cl_c226_1) 4000 (e2_seek e2x_81 51) al_c226_1 [] E_c226_1 h_c226_1 = true := by decide +kernel
set_option maxRecDepth 1000000 in
theorem ci_c226_1 : e2_idl 2 (al_c226_1.set 5 (9, 0, 0)) = true := by decide +kernel
set_option maxRecDepth 1000000 in
theorem cj_c226_1 : e2_idh 2 8 h_c226_1 = true := by decide +kernel
theorem cs_c226 (hen : en_ok) (l : Launch) (hh : e2_hand_c l) : e2_smOk l 67 s_c226 := by
  refine e2_conG (H := 65) (n := 1) (C := evd_81) (S := S_c226) (I := I_c226) (fuel := 4000) hen ei_81 (e2_fa (cs_c222 hen l hh) (e2_fa (cs_c225 hen l hh) e2_fz)) (e2_fa ein_64 e2_fz) (by decide) co_c226 fun M d _ hC hcall p e R s m args below meth c Q D cA A ads r0 ha hl0 => ?_
  have L_0 : e2_gdM M p l e R s m args below meth c Q D cA A ads r0 51 al_c226_0 [] E_c226_0 h_c226_0 := by
    refine e2_indL (u := 2) (j := 5) (lo := 2147483649) (hi := 2147483669) (b := 2) (dd := 0) hl0 (by decide) rfl rfl (Or.inr ⟨rfl, rfl⟩) rfl ci_c226_0 cj_c226_0 ?_
    intro r_0 k_0 hk_0 hp_0 hs_0 hn_0
    have hl_0 : r_0.length ≤ 3 := hs_0.len rfl
    have ha_0 := ha.ext hp_0
    exact e2_fromM hen ha_0 hcall (e2_cutA_ok (e2_fa (fun al st E h hc => hn_0 al st E h hc) e2_fz)) (hC [60, 62]) (X := e2x_81) ex2_81 51 ck_c226_0
  have EN_0 := e2_entL (u := 2) (j := 5) (lo := 2147483649) (hi := 2147483669) hl0 rfl rfl rfl ci_c226_0 cj_c226_0 L_0
  have L_1 : e2_gdM M p l e R s m args below meth c Q D cA A ads r0 51 al_c226_1 [] E_c226_1 h_c226_1 := by
    refine e2_indL (u := 2) (j := 5) (lo := 2147483648) (hi := 2147483669) (b := 2) (dd := 0) hl0 (by decide) rfl rfl (Or.inr ⟨rfl, rfl⟩) rfl ci_c226_1 cj_c226_1 ?_
    intro r_1 k_1 hk_1 hp_1 hs_1 hn_1
    have hl_1 : r_1.length ≤ 3 := hs_1.len rfl
    have ha_1 := ha.ext hp_1
    exact e2_fromM hen ha_1 hcall (e2_cutA_ok (e2_fa (fun al st E h hc => (EN_0 al st E h hc).ext hp_1) (e2_fa (fun al st E h hc => hn_1 al st E h hc) e2_fz))) (hC [60, 62]) (X := e2x_81) ex2_81 51 ck_c226_1
  have EN_1 := e2_entL (u := 2) (j := 5) (lo := 2147483648) (hi := 2147483669) hl0 rfl rfl rfl ci_c226_1 cj_c226_1 L_1
  exact e2_from hen ha hcall (e2_cutA_ok (e2_fa (fun al st E h hc => EN_1 al st E h hc) e2_fz)) (hC [60, 62]) (X := e2x_81) ex2_81 0 ck_c226_e
/-! c227 X4_placeFor -/
def as_c227 : List ev_V := [(2, 59, 0), (11, 2147483648, 2147483655), (11, 2147483647, 2147483655), (11, 2147483647, 2147483655)]
def E_c227 : e2_E := [(2147483648, 2147583648, 0, 0), (2147483652, 2147483668, 1, 0)]
def cc193 : ev_C := (50, [(11, 2147483647, 2147483655), (11, 2147483647, 2147483655), (11, 2147483647, 2147483655)])
def cn1009 : e2_Q1 := (cc193, cc3)
def cn1010 : e2_Q2 := (cn0, cn1009)
def cn1011 : e2_Q3 := (cn1010, cn5)
def cn1012 : e2_Q4 := (cn1011, cn13)
def cn1013 : e2_Q5 := (cn1012, cn378)
def cn1014 : e2_Q6 := (cn1013, cn908)
def cn1015 : e2_Q7 := (cn1014, cn403)
def cn1016 : e2_Q8 := (cn1015, cn860)
noncomputable def f_c227 : ev_H := (cn1016 : e2_Q8)
def cc194 : ev_C := (50, [(11, 2147483648, 2147483655), (11, 2147483647, 2147483655), (11, 2147483647, 2147483655)])
def cn1017 : e2_Q1 := (cc194, cc3)
def cn1018 : e2_Q2 := (cn0, cn1017)
def cn1019 : e2_Q3 := (cn1018, cn5)
def cn1020 : e2_Q4 := (cn1019, cn13)
def cn1021 : e2_Q5 := (cn1020, cn378)
def cn1022 : e2_Q6 := (cn1021, cn908)
def cn1023 : e2_Q7 := (cn1022, cn403)
def cc195 : ev_C := (4, [(2, 65, 0), (2, 63, 0), (2, 17, 0), (11, 0, 4294967295), (2, 62, 0), (11, 0, 4294967295), (11, 2147483648, 2147483668), (2, 60, 0), (11, 2147483648, 2147483668), (11, 0, 4294967295), (11, 0, 4294967295), (2, 61, 0), (2, 64, 0), (11, 2147483649, 2147483651)])
def cn1024 : e2_Q1 := (cc195, cc3)
def cn1025 : e2_Q2 := (cn1024, cn216)
def cn1026 : e2_Q3 := (cn214, cn1025)
def cn1027 : e2_Q4 := (cn416, cn1026)
def cn1028 : e2_Q5 := (cn342, cn1027)
def cn1029 : e2_Q6 := (cn1028, cn420)
def cn1030 : e2_Q7 := (cn414, cn1029)
def cn1031 : e2_Q8 := (cn1023, cn1030)
noncomputable def q_c227_0 : ev_H := (cn1031 : e2_Q8)
def cn1032 : e2_Q6 := (cn1028, cn437)
def cn1033 : e2_Q7 := (cn433, cn1032)
def cn1034 : e2_Q8 := (cn1023, cn1033)
noncomputable def q_c227_1 : ev_H := (cn1034 : e2_Q8)
noncomputable def rs_c227 : e2_Rs := [((0, 4294967295, 0), q_c227_0), ((11, 2147483647, 2147483837), q_c227_1)]
noncomputable def s_c227 : e2_Sm := (80, as_c227, E_c227, f_c227, rs_c227)
noncomputable def S_c227 : List e2_Sm := [s_c214, s_c219, s_c226]
noncomputable def I_c227 : List e2_In := [(122, 2, e2x_122), (159, 2, e2x_159), (291, 1, e2x_291)]
set_option maxRecDepth 1000000 in
theorem ck_c227 : e2_run (e2_cal S_c227 I_c227 4000 2) (e2_fin rs_c227) e2x_80 (fun _ => false) (fun _ _ _ _ _ => false) 4000 (e2_seek e2x_80 0) (e2_al 6 as_c227) [] E_c227 f_c227 = true := by decide +kernel
set_option maxRecDepth 1000000 in
theorem co_c227 : e2_okSB E_c227.length as_c227 f_c227 rs_c227 = true := by decide +kernel
theorem cs_c227 (hen : en_ok) (l : Launch) (hh : e2_hand_c l) : e2_smOk l 70 s_c227 := e2_con0 (H := 67) (n := 2) (C := evd_80) (S := S_c227) (I := I_c227) (fuel := 4000) [] hen ei_80 (e2_fa ((cs_c214 hen l hh).mono (by decide)) (e2_fa ((cs_c219 hen l hh).mono (by decide)) (e2_fa (cs_c226 hen l hh) e2_fz))) (e2_fa ein_122 (e2_fa ein_159 (e2_fa ein_291 e2_fz))) (by decide) co_c227 ex2_80 ck_c227
/-! c228 X4_harmfulCells -/
def as_c228 : List ev_V := [(2, 59, 0)]
def E_c228 : e2_E := [(2147483648, 2147583648, 0, 0), (2147483652, 2147483668, 1, 0)]
noncomputable def f_c228 : ev_H := (cn861 : e2_Q8)
noncomputable def q_c228_0 : ev_H := (cn864 : e2_Q8)
noncomputable def q_c228_1 : ev_H := (cn861 : e2_Q8)
noncomputable def rs_c228 : e2_Rs := [((11, 0, 4294967295), q_c228_0), ((0, 0, 0), q_c228_1)]
noncomputable def s_c228 : e2_Sm := (82, as_c228, E_c228, f_c228, rs_c228)
noncomputable def S_c228 : List e2_Sm := [s_c191, s_c192]
noncomputable def I_c228 : List e2_In := [(159, 2, e2x_159)]
set_option maxRecDepth 1000000 in
theorem co_c228 : e2_okSB E_c228.length as_c228 f_c228 rs_c228 = true := by decide +kernel
def al_c228_0 : List ev_V := [(2, 59, 0), (11, 0, 4294967295), (1, 2, 4294967296)]
def E_c228_0 : e2_E := [(2147483648, 2147583648, 0, 0), (2147483652, 2147483668, 1, 0), (2147483649, 2147483668, 2, 0)]
noncomputable def h_c228_0 : ev_H := (cn864 : e2_Q8)
def al_c228_1 : List ev_V := [(2, 59, 0), (0, 0, 0), (1, 2, 4294967296)]
def E_c228_1 : e2_E := [(2147483648, 2147583648, 0, 0), (2147483652, 2147483668, 1, 0), (2147483648, 2147483668, 2, 0)]
noncomputable def h_c228_1 : ev_H := (cn861 : e2_Q8)
noncomputable def cl_c228_e : List (Nat × e2_S) := [(4, e2_cutL (al_c228_1.set 2 (11, 2147483648, 2147483668)) 2 (E_c228_1.take 2) h_c228_1)]
set_option maxRecDepth 1000000 in
theorem ck_c228_e : e2_run (e2_cal S_c228 I_c228 4000 1) (e2_fin rs_c228) e2x_82 (e2_bpL cl_c228_e) (e2_cutA cl_c228_e) 4000 (e2_seek e2x_82 0) (e2_al 3 as_c228) [] E_c228 f_c228 = true := by decide +kernel
noncomputable def cl_c228_0 : List (Nat × e2_S) := [(4, e2_cutL (al_c228_0.set 2 (13, 10, 2147483668)) 2 (E_c228_0.take 2) h_c228_0)]
set_option maxRecDepth 1000000 in
theorem ck_c228_0 : e2_runM (e2_cal S_c228 I_c228 4000 1) (e2_fin rs_c228) e2x_82 (e2_bpL cl_c228_0) (e2_cutA cl_c228_0) 4000 (e2_seek e2x_82 4) al_c228_0 [] E_c228_0 h_c228_0 = true := by decide +kernel
set_option maxRecDepth 1000000 in
theorem ci_c228_0 : e2_idl 2 (al_c228_0.set 2 (9, 0, 0)) = true := by decide +kernel
set_option maxRecDepth 1000000 in
theorem cj_c228_0 : e2_idh 2 8 h_c228_0 = true := by decide +kernel
noncomputable def cl_c228_1 : List (Nat × e2_S) := [(4, e2_cutL (al_c228_0.set 2 (11, 2147483649, 2147483668)) 2 (E_c228_0.take 2) h_c228_0),
  (4, e2_cutL (al_c228_1.set 2 (13, 10, 2147483668)) 2 (E_c228_1.take 2) h_c228_1)]
set_option maxRecDepth 1000000 in
theorem ck_c228_1 : e2_runM (e2_cal S_c228 I_c228 4000 1) (e2_fin rs_c228) e2x_82 (e2_bpL cl_c228_1) (e2_cutA cl_c228_1) 4000 (e2_seek e2x_82 4) al_c228_1 [] E_c228_1 h_c228_1 = true := by decide +kernel
set_option maxRecDepth 1000000 in
theorem ci_c228_1 : e2_idl 2 (al_c228_1.set 2 (9, 0, 0)) = true := by decide +kernel
set_option maxRecDepth 1000000 in
theorem cj_c228_1 : e2_idh 2 8 h_c228_1 = true := by decide +kernel
theorem cs_c228 (hen : en_ok) (l : Launch) (hh : e2_hand_c l) : e2_smOk l 63 s_c228 := by
  refine e2_conG (H := 61) (n := 1) (C := evd_82) (S := S_c228) (I := I_c228) (fuel := 4000) hen ei_82 (e2_fa (cs_c191 hen l hh) (e2_fa (cs_c192 hen l hh) e2_fz)) (e2_fa ein_159 e2_fz) (by decide) co_c228 fun M d _ hC hcall p e R s m args below meth c Q D cA A ads r0 ha hl0 => ?_
  have L_0 : e2_gdM M p l e R s m args below meth c Q D cA A ads r0 4 al_c228_0 [] E_c228_0 h_c228_0 := by
    refine e2_indL (u := 2) (j := 2) (lo := 2147483649) (hi := 2147483668) (b := 2) (dd := 0) hl0 (by decide) rfl rfl (Or.inr ⟨rfl, rfl⟩) rfl ci_c228_0 cj_c228_0 ?_
    intro r_0 k_0 hk_0 hp_0 hs_0 hn_0
    have hl_0 : r_0.length ≤ 3 := hs_0.len rfl
    have ha_0 := ha.ext hp_0
    exact e2_fromM hen ha_0 hcall (e2_cutA_ok (e2_fa (fun al st E h hc => hn_0 al st E h hc) e2_fz)) (hC []) (X := e2x_82) ex2_82 4 ck_c228_0
  have EN_0 := e2_entL (u := 2) (j := 2) (lo := 2147483649) (hi := 2147483668) hl0 rfl rfl rfl ci_c228_0 cj_c228_0 L_0
  have L_1 : e2_gdM M p l e R s m args below meth c Q D cA A ads r0 4 al_c228_1 [] E_c228_1 h_c228_1 := by
    refine e2_indL (u := 2) (j := 2) (lo := 2147483648) (hi := 2147483668) (b := 2) (dd := 0) hl0 (by decide) rfl rfl (Or.inr ⟨rfl, rfl⟩) rfl ci_c228_1 cj_c228_1 ?_
    intro r_1 k_1 hk_1 hp_1 hs_1 hn_1
    have hl_1 : r_1.length ≤ 3 := hs_1.len rfl
    have ha_1 := ha.ext hp_1
    exact e2_fromM hen ha_1 hcall (e2_cutA_ok (e2_fa (fun al st E h hc => (EN_0 al st E h hc).ext hp_1) (e2_fa (fun al st E h hc => hn_1 al st E h hc) e2_fz))) (hC []) (X := e2x_82) ex2_82 4 ck_c228_1
  have EN_1 := e2_entL (u := 2) (j := 2) (lo := 2147483648) (hi := 2147483668) hl0 rfl rfl rfl ci_c228_1 cj_c228_1 L_1
  exact e2_from hen ha hcall (e2_cutA_ok (e2_fa (fun al st E h hc => EN_1 al st E h hc) e2_fz)) (hC []) (X := e2x_82) ex2_82 0 ck_c228_e
/-! c229 X4_losingCells -/
def as_c229 : List ev_V := [(2, 59, 0), (11, 2147483648, 2147483651)]
def E_c229 : e2_E := [(2147483648, 2147583648, 0, 0), (2147483652, 2147483668, 1, 0)]
noncomputable def f_c229 : ev_H := (cn872 : e2_Q8)
noncomputable def q_c229_0 : ev_H := (cn877 : e2_Q8)
noncomputable def rs_c229 : e2_Rs := [((11, 0, 4294967295), q_c229_0)]
noncomputable def s_c229 : e2_Sm := (83, as_c229, E_c229, f_c229, rs_c229)
noncomputable def S_c229 : List e2_Sm := [s_c194, s_c195]
noncomputable def I_c229 : List e2_In := [(159, 2, e2x_159)]
set_option maxRecDepth 1000000 in
theorem co_c229 : e2_okSB E_c229.length as_c229 f_c229 rs_c229 = true := by decide +kernel
def al_c229_0 : List ev_V := [(2, 59, 0), (11, 2147483648, 2147483651), (11, 0, 4294967295), (11, 0, 4294967295), (1, 2, 4294967296)]
def E_c229_0 : e2_E := [(2147483648, 2147583648, 0, 0), (2147483652, 2147483668, 1, 0), (2147483648, 2147483668, 2, 0)]
noncomputable def h_c229_0 : ev_H := (cn877 : e2_Q8)
noncomputable def cl_c229_e : List (Nat × e2_S) := [(15, e2_cutL (al_c229_0.set 4 (11, 2147483648, 2147483668)) 2 (E_c229_0.take 2) h_c229_0)]
set_option maxRecDepth 1000000 in
theorem ck_c229_e : e2_run (e2_cal S_c229 I_c229 4000 1) (e2_fin rs_c229) e2x_83 (e2_bpL cl_c229_e) (e2_cutA cl_c229_e) 4000 (e2_seek e2x_83 0) (e2_al 5 as_c229) [] E_c229 f_c229 = true := by decide +kernel
noncomputable def cl_c229_0 : List (Nat × e2_S) := [(15, e2_cutL (al_c229_0.set 4 (13, 10, 2147483668)) 2 (E_c229_0.take 2) h_c229_0)]
set_option maxRecDepth 1000000 in
theorem ck_c229_0 : e2_runM (e2_cal S_c229 I_c229 4000 1) (e2_fin rs_c229) e2x_83 (e2_bpL cl_c229_0) (e2_cutA cl_c229_0) 4000 (e2_seek e2x_83 15) al_c229_0 [] E_c229_0 h_c229_0 = true := by decide +kernel
set_option maxRecDepth 1000000 in
theorem ci_c229_0 : e2_idl 2 (al_c229_0.set 4 (9, 0, 0)) = true := by decide +kernel
set_option maxRecDepth 1000000 in
theorem cj_c229_0 : e2_idh 2 8 h_c229_0 = true := by decide +kernel
theorem cs_c229 (hen : en_ok) (l : Launch) (hh : e2_hand_c l) : e2_smOk l 63 s_c229 := by
  refine e2_conG (H := 61) (n := 1) (C := evd_83) (S := S_c229) (I := I_c229) (fuel := 4000) hen ei_83 (e2_fa (cs_c194 hen l hh) (e2_fa (cs_c195 hen l hh) e2_fz)) (e2_fa ein_159 e2_fz) (by decide) co_c229 fun M d _ hC hcall p e R s m args below meth c Q D cA A ads r0 ha hl0 => ?_
  have L_0 : e2_gdM M p l e R s m args below meth c Q D cA A ads r0 15 al_c229_0 [] E_c229_0 h_c229_0 := by
    refine e2_indL (u := 2) (j := 4) (lo := 2147483648) (hi := 2147483668) (b := 2) (dd := 0) hl0 (by decide) rfl rfl (Or.inr ⟨rfl, rfl⟩) rfl ci_c229_0 cj_c229_0 ?_
    intro r_0 k_0 hk_0 hp_0 hs_0 hn_0
    have hl_0 : r_0.length ≤ 3 := hs_0.len rfl
    have ha_0 := ha.ext hp_0
    exact e2_fromM hen ha_0 hcall (e2_cutA_ok (e2_fa (fun al st E h hc => hn_0 al st E h hc) e2_fz)) (hC []) (X := e2x_83) ex2_83 15 ck_c229_0
  have EN_0 := e2_entL (u := 2) (j := 4) (lo := 2147483648) (hi := 2147483668) hl0 rfl rfl rfl ci_c229_0 cj_c229_0 L_0
  exact e2_from hen ha hcall (e2_cutA_ok (e2_fa (fun al st E h hc => EN_0 al st E h hc) e2_fz)) (hC []) (X := e2x_83) ex2_83 0 ck_c229_e
