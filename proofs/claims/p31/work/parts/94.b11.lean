/-! CONTRACTS b, printed by a program -/
/-! b235 X10_sure -/
def as_b235 : List ev_V := [(2, 83, 0), (11, 0, 4294967295), (11, 0, 4294967295), (11, 0, 4294967295)]
def E_b235 : e2_E := [(2147483648, 2147583648, 0, 0), (2147483648, 2147483656, 1, 0), (2147483648, 2147483688, 2, 0), (2147483648, 2147483688, 3, 0)]
noncomputable def f_b235 : ev_H := (bn1897 : e2_Q8)
noncomputable def q_b235_0 : ev_H := (bn1897 : e2_Q8)
noncomputable def rs_b235 : e2_Rs := [((11, 2147483646, 2147483649), q_b235_0)]
noncomputable def s_b235 : e2_Sm := (284, as_b235, E_b235, f_b235, rs_b235)
noncomputable def S_b235 : List e2_Sm := [s_b233]
noncomputable def I_b235 : List e2_In := [(212, 3, e2x_212), (217, 1, e2x_217), (275, 1, e2x_275), (276, 2, e2x_276)]
set_option maxRecDepth 1000000 in
theorem ck_b235 : e2_run (e2_cal S_b235 I_b235 4000 3) (e2_fin rs_b235) e2x_284 (fun _ => false) (fun _ _ _ _ _ => false) 4000 (e2_seek e2x_284 0) (e2_al 5 as_b235) [] E_b235 f_b235 = true := by decide +kernel
set_option maxRecDepth 1000000 in
theorem co_b235 : e2_okSB E_b235.length as_b235 f_b235 rs_b235 = true := by decide +kernel
theorem cs_b235 (hen : en_ok) (l : Launch) : e2_smOk l 8 s_b235 := e2_con0 (H := 4) (n := 3) (C := evd_284) (S := S_b235) (I := I_b235) (fuel := 4000) [] hen ei_284 (e2_fa (cs_b233 hen l) e2_fz) (e2_fa ein_212 (e2_fa ein_217 (e2_fa ein_275 (e2_fa ein_276 e2_fz)))) (by decide) co_b235 ex2_284 ck_b235
/-! b236 X10_ask -/
def as_b236 : List ev_V := [(2, 83, 0), (11, 0, 4294967295), (11, 0, 4294967295)]
def E_b236 : e2_E := [(2147483648, 2147583648, 0, 0), (2147483648, 2147483656, 1, 0), (2147483648, 2147483688, 2, 0), (2147483648, 2147483688, 3, 0)]
noncomputable def f_b236 : ev_H := (bn1897 : e2_Q8)
noncomputable def q_b236_0 : ev_H := (bn1897 : e2_Q8)
noncomputable def rs_b236 : e2_Rs := [((11, 0, 4294967295), q_b236_0)]
noncomputable def s_b236 : e2_Sm := (285, as_b236, E_b236, f_b236, rs_b236)
noncomputable def S_b236 : List e2_Sm := [s_b233]
noncomputable def I_b236 : List e2_In := [(212, 3, e2x_212), (217, 1, e2x_217), (275, 1, e2x_275)]
set_option maxRecDepth 1000000 in
theorem co_b236 : e2_okSB E_b236.length as_b236 f_b236 rs_b236 = true := by decide +kernel
def al_b236_0 : List ev_V := [(2, 83, 0), (11, 2147483648, 2147483649), (11, 0, 4294967295), (11, 2147483648, 2147483663), (11, 0, 4294967295), (1, 4, 4294967296), (9, 0, 0)]
def E_b236_0 : e2_E := [(2147483648, 2147583648, 0, 0), (2147483649, 2147483656, 1, 0), (2147483648, 2147483688, 2, 0), (2147483648, 2147483688, 3, 0), (2147483648, 2147483664, 4, 0)]
noncomputable def h_b236_0 : ev_H := (bn1897 : e2_Q8)
noncomputable def cl_b236_e : List (Nat × e2_S) := [(45, e2_cutL (al_b236_0.set 5 (11, 2147483648, 2147483664)) 4 (E_b236_0.take 4) h_b236_0)]
set_option maxRecDepth 1000000 in
theorem ck_b236_e : e2_run (e2_cal S_b236 I_b236 4000 2) (e2_fin rs_b236) e2x_285 (e2_bpL cl_b236_e) (e2_cutA cl_b236_e) 4000 (e2_seek e2x_285 0) (e2_al 7 as_b236) [] E_b236 f_b236 = true := by decide +kernel
noncomputable def cl_b236_0 : List (Nat × e2_S) := [(45, e2_cutL (al_b236_0.set 5 (13, 12, 2147483664)) 4 (E_b236_0.take 4) h_b236_0)]
set_option maxRecDepth 1000000 in
theorem ck_b236_0 : e2_runM (e2_cal S_b236 I_b236 4000 2) (e2_fin rs_b236) e2x_285 (e2_bpL cl_b236_0) (e2_cutA cl_b236_0) 4000 (e2_seek e2x_285 45) al_b236_0 [] E_b236_0 h_b236_0 = true := by decide +kernel
set_option maxRecDepth 1000000 in
theorem ci_b236_0 : e2_idl 4 (al_b236_0.set 5 (9, 0, 0)) = true := by decide +kernel
set_option maxRecDepth 1000000 in
theorem cj_b236_0 : e2_idh 4 8 h_b236_0 = true := by decide +kernel
theorem cs_b236 (hen : en_ok) (l : Launch) : e2_smOk l 7 s_b236 := by
  refine e2_conG (H := 4) (n := 2) (C := evd_285) (S := S_b236) (I := I_b236) (fuel := 4000) hen ei_285 (e2_fa (cs_b233 hen l) e2_fz) (e2_fa ein_212 (e2_fa ein_217 (e2_fa ein_275 e2_fz))) (by decide) co_b236 fun M d _ hC hcall p e R s m args below meth c Q D cA A ads r0 ha hl0 => ?_
  have L_0 : e2_gdM M p l e R s m args below meth c Q D cA A ads r0 45 al_b236_0 [] E_b236_0 h_b236_0 := by
    refine e2_indL (u := 4) (j := 5) (lo := 2147483648) (hi := 2147483664) (b := 4) (dd := 0) hl0 (by decide) rfl rfl (Or.inr ⟨rfl, rfl⟩) rfl ci_b236_0 cj_b236_0 ?_
    intro r_0 k_0 hk_0 hp_0 hs_0 hn_0
    have hl_0 : r_0.length ≤ 5 := hs_0.len rfl
    have ha_0 := ha.ext hp_0
    exact e2_fromM hen ha_0 hcall (e2_cutA_ok (e2_fa (fun al st E h hc => hn_0 al st E h hc) e2_fz)) (hC []) (X := e2x_285) ex2_285 45 ck_b236_0
  have EN_0 := e2_entL (u := 4) (j := 5) (lo := 2147483648) (hi := 2147483664) hl0 rfl rfl rfl ci_b236_0 cj_b236_0 L_0
  exact e2_from hen ha hcall (e2_cutA_ok (e2_fa (fun al st E h hc => EN_0 al st E h hc) e2_fz)) (hC []) (X := e2x_285) ex2_285 0 ck_b236_e
/-! b237 X10_image -/
def as_b237 : List ev_V := [(2, 83, 0), (11, 0, 4294967295)]
def E_b237 : e2_E := [(2147483648, 2147583648, 0, 0), (2147483648, 2147483656, 1, 0), (2147483648, 2147483688, 2, 0), (2147483648, 2147483688, 3, 0)]
def bc221 : ev_C := (56, [(0, 3, 0), (11, 2147483648, 2147483649)])
def bn1898 : e2_Q1 := (bc18, bc221)
def bn1899 : e2_Q2 := (bn1898, bn32)
def bn1900 : e2_Q3 := (bn1899, bn36)
def bn1901 : e2_Q4 := (bn1900, bn44)
def bn1902 : e2_Q5 := (bn1901, bn60)
def bn1903 : e2_Q6 := (bn30, bn1902)
def bn1904 : e2_Q7 := (bn1903, bn274)
def bc222 : ev_C := (50, [(11, 0, 4294967295), (11, 0, 4294967295), (11, 0, 4294967295), (11, 0, 4294967295), (11, 0, 4294967295), (11, 0, 4294967295), (11, 0, 4294967295), (11, 0, 4294967295), (11, 0, 4294967295), (11, 0, 4294967295), (11, 0, 4294967295), (11, 0, 4294967295), (11, 0, 4294967295), (11, 0, 4294967295), (11, 0, 4294967295), (11, 0, 4294967295), (11, 0, 4294967295), (11, 0, 4294967295), (11, 0, 4294967295), (11, 0, 4294967295), (11, 0, 4294967295), (11, 0, 4294967295), (11, 0, 4294967295), (11, 0, 4294967295), (11, 0, 4294967295), (11, 2147483648, 2147484647), (11, 0, 4294967295), (11, 0, 4294967295), (11, 0, 4294967295), (11, 0, 4294967295), (11, 0, 4294967295), (11, 0, 4294967295), (11, 0, 4294967295), (11, 0, 4294967295), (11, 0, 4294967295), (11, 0, 4294967295), (11, 0, 4294967295), (11, 0, 4294967295), (11, 0, 4294967295), (11, 0, 4294967295), (11, 0, 4294967295), (11, 0, 4294967295), (11, 0, 4294967295), (11, 0, 4294967295), (11, 0, 4294967295), (11, 0, 4294967295), (11, 0, 4294967295), (11, 0, 4294967295), (11, 0, 4294967295), (11, 0, 4294967295), (11, 0, 4294967295), (11, 2147483648, 2147484647), (11, 0, 4294967295), (11, 0, 4294967295), (11, 0, 4294967295), (11, 0, 4294967295), (11, 0, 4294967295), (11, 0, 4294967295), (11, 0, 4294967295), (11, 0, 4294967295), (11, 0, 4294967295), (11, 0, 4294967295), (11, 0, 4294967295), (11, 0, 4294967295), (11, 0, 4294967295), (11, 0, 4294967295), (11, 0, 4294967295), (11, 0, 4294967295), (11, 0, 4294967295), (11, 0, 4294967295), (11, 0, 4294967295), (11, 0, 4294967295), (11, 0, 4294967295), (11, 0, 4294967295), (11, 0, 4294967295), (11, 0, 4294967295), (11, 0, 4294967295), (11, 2147483648, 2147484647)])
def bn1905 : e2_Q1 := (bc101, bc222)
def bn1906 : e2_Q2 := (bn1905, bn191)
def bn1907 : e2_Q3 := (bn1906, bn195)
def bn1908 : e2_Q4 := (bn1907, bn203)
def bn1909 : e2_Q5 := (bn1908, bn219)
def bn1910 : e2_Q6 := (bn1909, bn251)
def bn1911 : e2_Q7 := (bn189, bn1910)
def bn1912 : e2_Q8 := (bn1904, bn1911)
noncomputable def f_b237 : ev_H := (bn1912 : e2_Q8)
noncomputable def q_b237_0 : ev_H := (bn1912 : e2_Q8)
noncomputable def rs_b237 : e2_Rs := [((11, 0, 4294967295), q_b237_0)]
noncomputable def s_b237 : e2_Sm := (286, as_b237, E_b237, f_b237, rs_b237)
noncomputable def S_b237 : List e2_Sm := []
noncomputable def I_b237 : List e2_In := [(212, 3, e2x_212)]
set_option maxRecDepth 1000000 in
theorem co_b237 : e2_okSB E_b237.length as_b237 f_b237 rs_b237 = true := by decide +kernel
def al_b237_0 : List ev_V := [(2, 83, 0), (11, 2147483648, 2147483650), (1, 4, 4294967296)]
def E_b237_0 : e2_E := [(2147483648, 2147583648, 0, 0), (2147483648, 2147483656, 1, 0), (2147483648, 2147483688, 2, 0), (2147483648, 2147483688, 3, 0), (2147483648, 2147483674, 4, 0)]
noncomputable def h_b237_0 : ev_H := (bn1912 : e2_Q8)
noncomputable def cl_b237_e : List (Nat × e2_S) := [(13, e2_cutL (al_b237_0.set 2 (11, 2147483648, 2147483674)) 4 (E_b237_0.take 4) h_b237_0)]
set_option maxRecDepth 1000000 in
theorem ck_b237_e : e2_run (e2_cal S_b237 I_b237 4000 1) (e2_fin rs_b237) e2x_286 (e2_bpL cl_b237_e) (e2_cutA cl_b237_e) 4000 (e2_seek e2x_286 0) (e2_al 3 as_b237) [] E_b237 f_b237 = true := by decide +kernel
noncomputable def cl_b237_0 : List (Nat × e2_S) := [(13, e2_cutL (al_b237_0.set 2 (13, 12, 2147483674)) 4 (E_b237_0.take 4) h_b237_0)]
set_option maxRecDepth 1000000 in
theorem ck_b237_0 : e2_runM (e2_cal S_b237 I_b237 4000 1) (e2_fin rs_b237) e2x_286 (e2_bpL cl_b237_0) (e2_cutA cl_b237_0) 4000 (e2_seek e2x_286 13) al_b237_0 [] E_b237_0 h_b237_0 = true := by decide +kernel
set_option maxRecDepth 1000000 in
theorem ci_b237_0 : e2_idl 4 (al_b237_0.set 2 (9, 0, 0)) = true := by decide +kernel
set_option maxRecDepth 1000000 in
theorem cj_b237_0 : e2_idh 4 8 h_b237_0 = true := by decide +kernel
theorem cs_b237 (hen : en_ok) (l : Launch) : e2_smOk l 2 s_b237 := by
  refine e2_conG (H := 0) (n := 1) (C := evd_286) (S := S_b237) (I := I_b237) (fuel := 4000) hen ei_286 e2_fz (e2_fa ein_212 e2_fz) (by decide) co_b237 fun M d _ hC hcall p e R s m args below meth c Q D cA A ads r0 ha hl0 => ?_
  have L_0 : e2_gdM M p l e R s m args below meth c Q D cA A ads r0 13 al_b237_0 [] E_b237_0 h_b237_0 := by
    refine e2_indL (u := 4) (j := 2) (lo := 2147483648) (hi := 2147483674) (b := 4) (dd := 0) hl0 (by decide) rfl rfl (Or.inr ⟨rfl, rfl⟩) rfl ci_b237_0 cj_b237_0 ?_
    intro r_0 k_0 hk_0 hp_0 hs_0 hn_0
    have hl_0 : r_0.length ≤ 5 := hs_0.len rfl
    have ha_0 := ha.ext hp_0
    exact e2_fromM hen ha_0 hcall (e2_cutA_ok (e2_fa (fun al st E h hc => hn_0 al st E h hc) e2_fz)) (hC [25, 27]) (X := e2x_286) ex2_286 13 ck_b237_0
  have EN_0 := e2_entL (u := 4) (j := 2) (lo := 2147483648) (hi := 2147483674) hl0 rfl rfl rfl ci_b237_0 cj_b237_0 L_0
  exact e2_from hen ha hcall (e2_cutA_ok (e2_fa (fun al st E h hc => EN_0 al st E h hc) e2_fz)) (hC [25, 27]) (X := e2x_286) ex2_286 0 ck_b237_e
/-! b238 X10_back -/
def as_b238 : List ev_V := [(2, 83, 0), (11, 0, 4294967295)]
def E_b238 : e2_E := [(2147483648, 2147583648, 0, 0), (2147483648, 2147483656, 1, 0), (2147483648, 2147483688, 2, 0), (2147483648, 2147483688, 3, 0)]
noncomputable def f_b238 : ev_H := (bn1912 : e2_Q8)
noncomputable def q_b238_0 : ev_H := (bn1912 : e2_Q8)
def bc223 : ev_C := (10, [(0, 0, 0), (2, 88, 0), (2, 115, 0), (2, 114, 0), (2, 86, 0), (2, 112, 0), (0, 0, 0), (2, 118, 0), (2, 120, 0), (2, 131, 0), (2, 91, 0), (11, 2147483648, 2147483668), (2, 123, 0), (11, 2147483648, 2147483649), (11, 2147483648, 2147485248), (2, 87, 0), (2, 84, 0), (2, 122, 0), (2, 100, 0), (2, 132, 0), (11, 2147483648, 2147483668), (11, 2147483648, 2147485248), (1, 0, 4294967296), (11, 0, 4294967295), (11, 2147483648, 2147485248), (2, 93, 0), (2, 104, 0), (11, 2147483648, 2147483678), (2, 89, 0), (2, 92, 0), (2, 119, 0), (2, 90, 0), (2, 94, 0), (2, 103, 0), (0, 0, 0), (11, 0, 4294967295), (11, 0, 4294967295), (11, 2147483648, 2147485249), (11, 2147483648, 2147483653), (11, 2147483648, 2147483668), (2, 85, 0), (11, 2147483648, 2147493647), (5, 0, 0), (2, 95, 0), (2, 96, 0), (2, 97, 0), (2, 98, 0), (2, 99, 0), (2, 101, 0), (2, 102, 0), (2, 105, 0), (2, 106, 0), (2, 107, 0), (2, 108, 0), (2, 109, 0), (2, 110, 0), (2, 111, 0), (11, 2147483648, 2147484768), (11, 2147482048, 2147483655), (11, 2147483648, 2147483738), (11, 2147483648, 2147483678), (11, 0, 4294967295), (11, 0, 4294967295), (11, 0, 4294967295), (11, 0, 4294967295), (11, 0, 4294967295), (2, 113, 0), (2, 116, 0), (2, 117, 0), (2, 121, 0), (11, 0, 4294967295), (11, 0, 4294967295), (2, 124, 0), (2, 125, 0), (11, 0, 4294967295), (2, 126, 0), (2, 127, 0), (2, 128, 0), (2, 129, 0), (2, 130, 0)])
def bn1913 : e2_Q1 := (bc223, bc3)
def bn1914 : e2_Q2 := (bn197, bn1913)
def bn1915 : e2_Q3 := (bn1914, bn202)
def bn1916 : e2_Q4 := (bn1907, bn1915)
def bn1917 : e2_Q5 := (bn1916, bn219)
def bn1918 : e2_Q6 := (bn1917, bn251)
def bn1919 : e2_Q7 := (bn189, bn1918)
def bn1920 : e2_Q8 := (bn1904, bn1919)
noncomputable def q_b238_1 : ev_H := (bn1920 : e2_Q8)
noncomputable def rs_b238 : e2_Rs := [((0, 4294967295, 0), q_b238_0), ((11, 0, 4294967295), q_b238_1)]
noncomputable def s_b238 : e2_Sm := (287, as_b238, E_b238, f_b238, rs_b238)
noncomputable def S_b238 : List e2_Sm := []
noncomputable def I_b238 : List e2_In := [(212, 3, e2x_212)]
set_option maxRecDepth 1000000 in
theorem co_b238 : e2_okSB E_b238.length as_b238 f_b238 rs_b238 = true := by decide +kernel
def al_b238_0 : List ev_V := [(2, 83, 0), (11, 2147483648, 2147483650), (1, 4, 4294967296)]
def E_b238_0 : e2_E := [(2147483648, 2147583648, 0, 0), (2147483648, 2147483656, 1, 0), (2147483648, 2147483688, 2, 0), (2147483648, 2147483688, 3, 0), (2147483648, 2147483674, 4, 0)]
noncomputable def h_b238_0 : ev_H := (bn1912 : e2_Q8)
noncomputable def cl_b238_e : List (Nat × e2_S) := [(22, e2_cutL (al_b238_0.set 2 (11, 2147483648, 2147483674)) 4 (E_b238_0.take 4) h_b238_0)]
set_option maxRecDepth 1000000 in
theorem ck_b238_e : e2_run (e2_cal S_b238 I_b238 4000 1) (e2_fin rs_b238) e2x_287 (e2_bpL cl_b238_e) (e2_cutA cl_b238_e) 4000 (e2_seek e2x_287 0) (e2_al 3 as_b238) [] E_b238 f_b238 = true := by decide +kernel
noncomputable def cl_b238_0 : List (Nat × e2_S) := [(22, e2_cutL (al_b238_0.set 2 (13, 12, 2147483674)) 4 (E_b238_0.take 4) h_b238_0)]
set_option maxRecDepth 1000000 in
theorem ck_b238_0 : e2_runM (e2_cal S_b238 I_b238 4000 1) (e2_fin rs_b238) e2x_287 (e2_bpL cl_b238_0) (e2_cutA cl_b238_0) 4000 (e2_seek e2x_287 22) al_b238_0 [] E_b238_0 h_b238_0 = true := by decide +kernel
set_option maxRecDepth 1000000 in
theorem ci_b238_0 : e2_idl 4 (al_b238_0.set 2 (9, 0, 0)) = true := by decide +kernel
set_option maxRecDepth 1000000 in
theorem cj_b238_0 : e2_idh 4 8 h_b238_0 = true := by decide +kernel
theorem cs_b238 (hen : en_ok) (l : Launch) : e2_smOk l 2 s_b238 := by
  refine e2_conG (H := 0) (n := 1) (C := evd_287) (S := S_b238) (I := I_b238) (fuel := 4000) hen ei_287 e2_fz (e2_fa ein_212 e2_fz) (by decide) co_b238 fun M d _ hC hcall p e R s m args below meth c Q D cA A ads r0 ha hl0 => ?_
  have L_0 : e2_gdM M p l e R s m args below meth c Q D cA A ads r0 22 al_b238_0 [] E_b238_0 h_b238_0 := by
    refine e2_indL (u := 4) (j := 2) (lo := 2147483648) (hi := 2147483674) (b := 4) (dd := 0) hl0 (by decide) rfl rfl (Or.inr ⟨rfl, rfl⟩) rfl ci_b238_0 cj_b238_0 ?_
    intro r_0 k_0 hk_0 hp_0 hs_0 hn_0
    have hl_0 : r_0.length ≤ 5 := hs_0.len rfl
    have ha_0 := ha.ext hp_0
    exact e2_fromM hen ha_0 hcall (e2_cutA_ok (e2_fa (fun al st E h hc => hn_0 al st E h hc) e2_fz)) (hC [32, 39]) (X := e2x_287) ex2_287 22 ck_b238_0
  have EN_0 := e2_entL (u := 4) (j := 2) (lo := 2147483648) (hi := 2147483674) hl0 rfl rfl rfl ci_b238_0 cj_b238_0 L_0
  exact e2_from hen ha hcall (e2_cutA_ok (e2_fa (fun al st E h hc => EN_0 al st E h hc) e2_fz)) (hC [32, 39]) (X := e2x_287) ex2_287 0 ck_b238_e
/-! b239 X10_about -/
def as_b239 : List ev_V := [(2, 83, 0), (11, 0, 4294967295)]
def E_b239 : e2_E := [(2147483648, 2147583648, 0, 0), (2147483648, 2147483656, 1, 0), (2147483648, 2147483688, 2, 0), (2147483648, 2147483688, 3, 0)]
def bn1921 : e2_Q5 := (bn14, bn433)
def bc224 : ev_C := (50, [(11, 2147483648, 2147483708), (11, 2147483648, 2147483708)])
def bn1922 : e2_Q1 := (bc224, bc3)
def bn1923 : e2_Q2 := (bn53, bn1922)
def bn1924 : e2_Q3 := (bn1923, bn58)
def bn1925 : e2_Q4 := (bn52, bn1924)
def bn1926 : e2_Q5 := (bn45, bn1925)
def bn1927 : e2_Q6 := (bn1921, bn1926)
def bn1928 : e2_Q7 := (bn1927, bn349)
def bn1929 : e2_Q2 := (bn149, bn353)
def bn1930 : e2_Q3 := (bn1929, bn154)
def bn1931 : e2_Q4 := (bn148, bn1930)
def bn1932 : e2_Q5 := (bn141, bn1931)
def bn1933 : e2_Q6 := (bn1932, bn188)
def bn1934 : e2_Q6 := (bn357, bn1659)
def bn1935 : e2_Q7 := (bn1933, bn1934)
def bn1936 : e2_Q8 := (bn1928, bn1935)
noncomputable def f_b239 : ev_H := (bn1936 : e2_Q8)
noncomputable def q_b239_0 : ev_H := (bn1936 : e2_Q8)
noncomputable def rs_b239 : e2_Rs := [((11, 0, 4294967295), q_b239_0)]
noncomputable def s_b239 : e2_Sm := (288, as_b239, E_b239, f_b239, rs_b239)
noncomputable def S_b239 : List e2_Sm := [s_b11]
noncomputable def I_b239 : List e2_In := [(216, 1, e2x_216), (217, 1, e2x_217)]
set_option maxRecDepth 1000000 in
theorem ck_b239 : e2_run (e2_cal S_b239 I_b239 4000 1) (e2_fin rs_b239) e2x_288 (fun _ => false) (fun _ _ _ _ _ => false) 4000 (e2_seek e2x_288 0) (e2_al 2 as_b239) [] E_b239 f_b239 = true := by decide +kernel
set_option maxRecDepth 1000000 in
theorem co_b239 : e2_okSB E_b239.length as_b239 f_b239 rs_b239 = true := by decide +kernel
theorem cs_b239 (hen : en_ok) (l : Launch) : e2_smOk l 4 s_b239 := e2_con0 (H := 2) (n := 1) (C := evd_288) (S := S_b239) (I := I_b239) (fuel := 4000) [] hen ei_288 (e2_fa (cs_b11 hen l) e2_fz) (e2_fa ein_216 (e2_fa ein_217 e2_fz)) (by decide) co_b239 ex2_288 ck_b239
/-! b240 X10_feed -/
def as_b240 : List ev_V := [(2, 83, 0), (11, 0, 4294967295), (11, 0, 4294967295), (11, 0, 4294967295), (11, 0, 4294967295), (11, 0, 4294967295)]
def E_b240 : e2_E := [(2147483648, 2147583648, 0, 0), (2147483648, 2147483656, 1, 0), (2147483648, 2147483688, 2, 0), (2147483648, 2147483688, 3, 0)]
def bc225 : ev_C := (55, [(0, 1620, 0), (11, 2147483520, 2147483775)])
def bn1937 : e2_Q1 := (bc225, bc3)
def bn1938 : e2_Q2 := (bn38, bn1937)
def bn1939 : e2_Q3 := (bn1938, bn43)
def bn1940 : e2_Q4 := (bn37, bn1939)
def bn1941 : e2_Q5 := (bn1940, bn60)
def bn1942 : e2_Q6 := (bn267, bn1941)
def bn1943 : e2_Q7 := (bn1942, bn274)
def bn1944 : e2_Q8 := (bn1943, bn253)
noncomputable def f_b240 : ev_H := (bn1944 : e2_Q8)
def bc226 : ev_C := (10, [(0, 0, 0), (2, 88, 0), (2, 115, 0), (2, 114, 0), (2, 86, 0), (2, 112, 0), (1, 2, 4294967296), (2, 118, 0), (2, 120, 0), (2, 131, 0), (2, 91, 0), (11, 2147483648, 2147483668), (2, 123, 0), (11, 2147483648, 2147483649), (11, 2147483668, 2147485248), (2, 87, 0), (2, 84, 0), (2, 122, 0), (2, 100, 0), (2, 132, 0), (11, 2147483648, 2147483668), (11, 2147483648, 2147485248), (1, 0, 4294967296), (11, 0, 4294967295), (11, 2147483648, 2147485248), (2, 93, 0), (2, 104, 0), (11, 2147483648, 2147483678), (2, 89, 0), (2, 92, 0), (2, 119, 0), (2, 90, 0), (2, 94, 0), (2, 103, 0), (1, 3, 4294967296), (11, 0, 4294967295), (11, 0, 4294967295), (11, 2147483648, 2147485249), (11, 2147483648, 2147483653), (11, 2147483648, 2147483668), (2, 85, 0), (11, 2147483648, 2147493647), (5, 0, 0), (2, 95, 0), (2, 96, 0), (2, 97, 0), (2, 98, 0), (2, 99, 0), (2, 101, 0), (2, 102, 0), (2, 105, 0), (2, 106, 0), (2, 107, 0), (2, 108, 0), (2, 109, 0), (2, 110, 0), (2, 111, 0), (11, 2147483648, 2147484768), (11, 2147482048, 2147483655), (11, 2147483648, 2147483738), (11, 2147483648, 2147483678), (11, 0, 4294967295), (11, 0, 4294967295), (11, 0, 4294967295), (11, 0, 4294967295), (11, 0, 4294967295), (2, 113, 0), (2, 116, 0), (2, 117, 0), (2, 121, 0), (11, 0, 4294967295), (11, 0, 4294967295), (2, 124, 0), (2, 125, 0), (11, 0, 4294967295), (2, 126, 0), (2, 127, 0), (2, 128, 0), (2, 129, 0), (2, 130, 0)])
def bn1945 : e2_Q1 := (bc226, bc3)
def bn1946 : e2_Q2 := (bn197, bn1945)
def bn1947 : e2_Q3 := (bn1946, bn202)
def bn1948 : e2_Q4 := (bn196, bn1947)
def bn1949 : e2_Q5 := (bn1948, bn219)
def bn1950 : e2_Q6 := (bn1949, bn251)
def bn1951 : e2_Q7 := (bn189, bn1950)
def bn1952 : e2_Q8 := (bn1943, bn1951)
noncomputable def q_b240_0 : ev_H := (bn1952 : e2_Q8)
noncomputable def rs_b240 : e2_Rs := [((11, 2147483647, 2147485248), q_b240_0)]
noncomputable def s_b240 : e2_Sm := (289, as_b240, E_b240, f_b240, rs_b240)
noncomputable def S_b240 : List e2_Sm := []
noncomputable def I_b240 : List e2_In := []
set_option maxRecDepth 1000000 in
theorem co_b240 : e2_okSB E_b240.length as_b240 f_b240 rs_b240 = true := by decide +kernel
def al_b240_0 : List ev_V := [(2, 83, 0), (11, 0, 4294967295), (11, 0, 4294967295), (11, 0, 4294967295), (11, 0, 4294967295), (11, 0, 4294967295), (1, 4, 4294967296), (9, 0, 0)]
def E_b240_0 : e2_E := [(2147483648, 2147583648, 0, 0), (2147483648, 2147483656, 1, 0), (2147483648, 2147483688, 2, 0), (2147483648, 2147483688, 3, 0), (2147483648, 2147483668, 4, 0)]
def bc227 : ev_C := (10, [(0, 0, 0), (2, 88, 0), (2, 115, 0), (2, 114, 0), (2, 86, 0), (2, 112, 0), (1, 2, 4294967296), (2, 118, 0), (2, 120, 0), (2, 131, 0), (2, 91, 0), (11, 2147483648, 2147483668), (2, 123, 0), (11, 2147483648, 2147483649), (11, 2147483648, 2147485228), (2, 87, 0), (2, 84, 0), (2, 122, 0), (2, 100, 0), (2, 132, 0), (11, 2147483648, 2147483668), (11, 2147483648, 2147485248), (1, 0, 4294967296), (11, 0, 4294967295), (11, 2147483648, 2147485248), (2, 93, 0), (2, 104, 0), (11, 2147483648, 2147483678), (2, 89, 0), (2, 92, 0), (2, 119, 0), (2, 90, 0), (2, 94, 0), (2, 103, 0), (1, 3, 4294967296), (11, 0, 4294967295), (11, 0, 4294967295), (11, 2147483648, 2147485249), (11, 2147483648, 2147483653), (11, 2147483648, 2147483668), (2, 85, 0), (11, 2147483648, 2147493647), (5, 0, 0), (2, 95, 0), (2, 96, 0), (2, 97, 0), (2, 98, 0), (2, 99, 0), (2, 101, 0), (2, 102, 0), (2, 105, 0), (2, 106, 0), (2, 107, 0), (2, 108, 0), (2, 109, 0), (2, 110, 0), (2, 111, 0), (11, 2147483648, 2147484768), (11, 2147482048, 2147483655), (11, 2147483648, 2147483738), (11, 2147483648, 2147483678), (11, 0, 4294967295), (11, 0, 4294967295), (11, 0, 4294967295), (11, 0, 4294967295), (11, 0, 4294967295), (2, 113, 0), (2, 116, 0), (2, 117, 0), (2, 121, 0), (11, 0, 4294967295), (11, 0, 4294967295), (2, 124, 0), (2, 125, 0), (11, 0, 4294967295), (2, 126, 0), (2, 127, 0), (2, 128, 0), (2, 129, 0), (2, 130, 0)])
def bn1953 : e2_Q1 := (bc227, bc3)
def bn1954 : e2_Q2 := (bn197, bn1953)
def bn1955 : e2_Q3 := (bn1954, bn202)
def bn1956 : e2_Q4 := (bn196, bn1955)
def bn1957 : e2_Q5 := (bn1956, bn219)
def bn1958 : e2_Q6 := (bn1957, bn251)
def bn1959 : e2_Q7 := (bn189, bn1958)
def bn1960 : e2_Q8 := (bn1943, bn1959)
noncomputable def h_b240_0 : ev_H := (bn1960 : e2_Q8)
noncomputable def cl_b240_e : List (Nat × e2_S) := [(18, e2_cutL (al_b240_0.set 6 (11, 2147483648, 2147483668)) 4 (E_b240_0.take 4) h_b240_0)]
set_option maxRecDepth 1000000 in
theorem ck_b240_e : e2_run (e2_cal S_b240 I_b240 4000 0) (e2_fin rs_b240) e2x_289 (e2_bpL cl_b240_e) (e2_cutA cl_b240_e) 4000 (e2_seek e2x_289 0) (e2_al 8 as_b240) [] E_b240 f_b240 = true := by decide +kernel
noncomputable def cl_b240_0 : List (Nat × e2_S) := [(18, e2_cutL (al_b240_0.set 6 (13, 12, 2147483668)) 4 (E_b240_0.take 4) h_b240_0)]
set_option maxRecDepth 1000000 in
theorem ck_b240_0 : e2_runM (e2_cal S_b240 I_b240 4000 0) (e2_fin rs_b240) e2x_289 (e2_bpL cl_b240_0) (e2_cutA cl_b240_0) 4000 (e2_seek e2x_289 18) al_b240_0 [] E_b240_0 h_b240_0 = true := by decide +kernel
set_option maxRecDepth 1000000 in
theorem ci_b240_0 : e2_idl 4 (al_b240_0.set 6 (9, 0, 0)) = true := by decide +kernel
set_option maxRecDepth 1000000 in
theorem cj_b240_0 : e2_idh 4 8 h_b240_0 = true := by decide +kernel
theorem cs_b240 (hen : en_ok) (l : Launch) : e2_smOk l 1 s_b240 := by
  refine e2_conG (H := 0) (n := 0) (C := evd_289) (S := S_b240) (I := I_b240) (fuel := 4000) hen ei_289 e2_fz e2_fz (by decide) co_b240 fun M d _ hC hcall p e R s m args below meth c Q D cA A ads r0 ha hl0 => ?_
  have L_0 : e2_gdM M p l e R s m args below meth c Q D cA A ads r0 18 al_b240_0 [] E_b240_0 h_b240_0 := by
    refine e2_indL (u := 4) (j := 6) (lo := 2147483648) (hi := 2147483668) (b := 4) (dd := 0) hl0 (by decide) rfl rfl (Or.inr ⟨rfl, rfl⟩) rfl ci_b240_0 cj_b240_0 ?_
    intro r_0 k_0 hk_0 hp_0 hs_0 hn_0
    have hl_0 : r_0.length ≤ 5 := hs_0.len rfl
    have ha_0 := ha.ext hp_0
    exact e2_fromM hen ha_0 hcall (e2_cutA_ok (e2_fa (fun al st E h hc => hn_0 al st E h hc) e2_fz)) (hC []) (X := e2x_289) ex2_289 18 ck_b240_0
  have EN_0 := e2_entL (u := 4) (j := 6) (lo := 2147483648) (hi := 2147483668) hl0 rfl rfl rfl ci_b240_0 cj_b240_0 L_0
  exact e2_from hen ha hcall (e2_cutA_ok (e2_fa (fun al st E h hc => EN_0 al st E h hc) e2_fz)) (hC []) (X := e2x_289) ex2_289 0 ck_b240_e
