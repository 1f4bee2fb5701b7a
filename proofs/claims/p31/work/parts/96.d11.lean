/-! CONTRACTS d, printed by a program -/
/-! d235 X10_sure -/
def as_d235 : List ev_V := [(2, 83, 0), (11, 0, 4294967295), (11, 0, 4294967295), (11, 0, 4294967295)]
def E_d235 : e2_E := [(2147483648, 2147583648, 0, 0), (2147483648, 2147483656, 1, 0), (2147483648, 2147483688, 2, 0), (2147483648, 2147483688, 3, 0)]
noncomputable def f_d235 : ev_H := (dn1897 : e2_Q8)
noncomputable def q_d235_0 : ev_H := (dn1897 : e2_Q8)
noncomputable def rs_d235 : e2_Rs := [((11, 2147483646, 2147483649), q_d235_0)]
noncomputable def s_d235 : e2_Sm := (284, as_d235, E_d235, f_d235, rs_d235)
noncomputable def S_d235 : List e2_Sm := [s_d233]
noncomputable def I_d235 : List e2_In := [(212, 3, e2x_212), (217, 1, e2x_217), (275, 1, e2x_275), (276, 2, e2x_276)]
set_option maxRecDepth 1000000 in
theorem ck_d235 : e2_run (e2_cal S_d235 I_d235 4000 3) (e2_fin rs_d235) e2x_284 (fun _ => false) (fun _ _ _ _ _ => false) 4000 (e2_seek e2x_284 0) (e2_al 5 as_d235) [] E_d235 f_d235 = true := by decide +kernel
set_option maxRecDepth 1000000 in
theorem co_d235 : e2_okSB E_d235.length as_d235 f_d235 rs_d235 = true := by decide +kernel
theorem cs_d235 (hen : en_ok) (l : Launch) : e2_smOk l 8 s_d235 := e2_con0 (H := 4) (n := 3) (C := evd_284) (S := S_d235) (I := I_d235) (fuel := 4000) [] hen ei_284 (e2_fa (cs_d233 hen l) e2_fz) (e2_fa ein_212 (e2_fa ein_217 (e2_fa ein_275 (e2_fa ein_276 e2_fz)))) (by decide) co_d235 ex2_284 ck_d235
/-! d236 X10_ask -/
def as_d236 : List ev_V := [(2, 83, 0), (11, 0, 4294967295), (11, 0, 4294967295)]
def E_d236 : e2_E := [(2147483648, 2147583648, 0, 0), (2147483648, 2147483656, 1, 0), (2147483648, 2147483688, 2, 0), (2147483648, 2147483688, 3, 0)]
noncomputable def f_d236 : ev_H := (dn1897 : e2_Q8)
noncomputable def q_d236_0 : ev_H := (dn1897 : e2_Q8)
noncomputable def rs_d236 : e2_Rs := [((11, 0, 4294967295), q_d236_0)]
noncomputable def s_d236 : e2_Sm := (285, as_d236, E_d236, f_d236, rs_d236)
noncomputable def S_d236 : List e2_Sm := [s_d233]
noncomputable def I_d236 : List e2_In := [(212, 3, e2x_212), (217, 1, e2x_217), (275, 1, e2x_275)]
set_option maxRecDepth 1000000 in
theorem co_d236 : e2_okSB E_d236.length as_d236 f_d236 rs_d236 = true := by decide +kernel
def al_d236_0 : List ev_V := [(2, 83, 0), (11, 2147483648, 2147483649), (11, 0, 4294967295), (11, 2147483648, 2147483663), (11, 0, 4294967295), (1, 4, 4294967296), (9, 0, 0)]
def E_d236_0 : e2_E := [(2147483648, 2147583648, 0, 0), (2147483649, 2147483656, 1, 0), (2147483648, 2147483688, 2, 0), (2147483648, 2147483688, 3, 0), (2147483648, 2147483664, 4, 0)]
noncomputable def h_d236_0 : ev_H := (dn1897 : e2_Q8)
noncomputable def cl_d236_e : List (Nat × e2_S) := [(45, e2_cutL (al_d236_0.set 5 (11, 2147483648, 2147483664)) 4 (E_d236_0.take 4) h_d236_0)]
set_option maxRecDepth 1000000 in
theorem ck_d236_e : e2_run (e2_cal S_d236 I_d236 4000 2) (e2_fin rs_d236) e2x_285 (e2_bpL cl_d236_e) (e2_cutA cl_d236_e) 4000 (e2_seek e2x_285 0) (e2_al 7 as_d236) [] E_d236 f_d236 = true := by decide +kernel
noncomputable def cl_d236_0 : List (Nat × e2_S) := [(45, e2_cutL (al_d236_0.set 5 (13, 12, 2147483664)) 4 (E_d236_0.take 4) h_d236_0)]
set_option maxRecDepth 1000000 in
theorem ck_d236_0 : e2_runM (e2_cal S_d236 I_d236 4000 2) (e2_fin rs_d236) e2x_285 (e2_bpL cl_d236_0) (e2_cutA cl_d236_0) 4000 (e2_seek e2x_285 45) al_d236_0 [] E_d236_0 h_d236_0 = true := by decide +kernel
set_option maxRecDepth 1000000 in
theorem ci_d236_0 : e2_idl 4 (al_d236_0.set 5 (9, 0, 0)) = true := by decide +kernel
set_option maxRecDepth 1000000 in
theorem cj_d236_0 : e2_idh 4 8 h_d236_0 = true := by decide +kernel
theorem cs_d236 (hen : en_ok) (l : Launch) : e2_smOk l 7 s_d236 := by
  refine e2_conG (H := 4) (n := 2) (C := evd_285) (S := S_d236) (I := I_d236) (fuel := 4000) hen ei_285 (e2_fa (cs_d233 hen l) e2_fz) (e2_fa ein_212 (e2_fa ein_217 (e2_fa ein_275 e2_fz))) (by decide) co_d236 fun M d _ hC hcall p e R s m args below meth c Q D cA A ads r0 ha hl0 => ?_
  have L_0 : e2_gdM M p l e R s m args below meth c Q D cA A ads r0 45 al_d236_0 [] E_d236_0 h_d236_0 := by
    refine e2_indL (u := 4) (j := 5) (lo := 2147483648) (hi := 2147483664) (b := 4) (dd := 0) hl0 (by decide) rfl rfl (Or.inr ⟨rfl, rfl⟩) rfl ci_d236_0 cj_d236_0 ?_
    intro r_0 k_0 hk_0 hp_0 hs_0 hn_0
    have hl_0 : r_0.length ≤ 5 := hs_0.len rfl
    have ha_0 := ha.ext hp_0
    exact e2_fromM hen ha_0 hcall (e2_cutA_ok (e2_fa (fun al st E h hc => hn_0 al st E h hc) e2_fz)) (hC []) (X := e2x_285) ex2_285 45 ck_d236_0
  have EN_0 := e2_entL (u := 4) (j := 5) (lo := 2147483648) (hi := 2147483664) hl0 rfl rfl rfl ci_d236_0 cj_d236_0 L_0
  exact e2_from hen ha hcall (e2_cutA_ok (e2_fa (fun al st E h hc => EN_0 al st E h hc) e2_fz)) (hC []) (X := e2x_285) ex2_285 0 ck_d236_e
/-! d237 X10_image -/
def as_d237 : List ev_V := [(2, 83, 0), (11, 0, 4294967295)]
def E_d237 : e2_E := [(2147483648, 2147583648, 0, 0), (2147483648, 2147483656, 1, 0), (2147483648, 2147483688, 2, 0), (2147483648, 2147483688, 3, 0)]
def dc221 : ev_C := (56, [(0, 3, 0), (11, 2147483648, 2147483649)])
def dn1898 : e2_Q1 := (dc18, dc221)
def dn1899 : e2_Q2 := (dn1898, dn32)
def dn1900 : e2_Q3 := (dn1899, dn36)
def dn1901 : e2_Q4 := (dn1900, dn44)
def dn1902 : e2_Q5 := (dn1901, dn60)
def dn1903 : e2_Q6 := (dn30, dn1902)
def dn1904 : e2_Q7 := (dn1903, dn274)
def dc222 : ev_C := (50, [(11, 0, 4294967295), (11, 0, 4294967295), (11, 0, 4294967295), (11, 0, 4294967295), (11, 0, 4294967295), (11, 0, 4294967295), (11, 0, 4294967295), (11, 0, 4294967295), (11, 0, 4294967295), (11, 0, 4294967295), (11, 0, 4294967295), (11, 0, 4294967295), (11, 0, 4294967295), (11, 0, 4294967295), (11, 0, 4294967295), (11, 0, 4294967295), (11, 0, 4294967295), (11, 0, 4294967295), (11, 0, 4294967295), (11, 0, 4294967295), (11, 0, 4294967295), (11, 0, 4294967295), (11, 0, 4294967295), (11, 0, 4294967295), (11, 0, 4294967295), (11, 2147483648, 2147484647), (11, 0, 4294967295), (11, 0, 4294967295), (11, 0, 4294967295), (11, 0, 4294967295), (11, 0, 4294967295), (11, 0, 4294967295), (11, 0, 4294967295), (11, 0, 4294967295), (11, 0, 4294967295), (11, 0, 4294967295), (11, 0, 4294967295), (11, 0, 4294967295), (11, 0, 4294967295), (11, 0, 4294967295), (11, 0, 4294967295), (11, 0, 4294967295), (11, 0, 4294967295), (11, 0, 4294967295), (11, 0, 4294967295), (11, 0, 4294967295), (11, 0, 4294967295), (11, 0, 4294967295), (11, 0, 4294967295), (11, 0, 4294967295), (11, 0, 4294967295), (11, 2147483648, 2147484647), (11, 0, 4294967295), (11, 0, 4294967295), (11, 0, 4294967295), (11, 0, 4294967295), (11, 0, 4294967295), (11, 0, 4294967295), (11, 0, 4294967295), (11, 0, 4294967295), (11, 0, 4294967295), (11, 0, 4294967295), (11, 0, 4294967295), (11, 0, 4294967295), (11, 0, 4294967295), (11, 0, 4294967295), (11, 0, 4294967295), (11, 0, 4294967295), (11, 0, 4294967295), (11, 0, 4294967295), (11, 0, 4294967295), (11, 0, 4294967295), (11, 0, 4294967295), (11, 0, 4294967295), (11, 0, 4294967295), (11, 0, 4294967295), (11, 0, 4294967295), (11, 2147483648, 2147484647)])
def dn1905 : e2_Q1 := (dc101, dc222)
def dn1906 : e2_Q2 := (dn1905, dn191)
def dn1907 : e2_Q3 := (dn1906, dn195)
def dn1908 : e2_Q4 := (dn1907, dn203)
def dn1909 : e2_Q5 := (dn1908, dn219)
def dn1910 : e2_Q6 := (dn1909, dn251)
def dn1911 : e2_Q7 := (dn189, dn1910)
def dn1912 : e2_Q8 := (dn1904, dn1911)
noncomputable def f_d237 : ev_H := (dn1912 : e2_Q8)
noncomputable def q_d237_0 : ev_H := (dn1912 : e2_Q8)
noncomputable def rs_d237 : e2_Rs := [((11, 0, 4294967295), q_d237_0)]
noncomputable def s_d237 : e2_Sm := (286, as_d237, E_d237, f_d237, rs_d237)
noncomputable def S_d237 : List e2_Sm := []
noncomputable def I_d237 : List e2_In := [(212, 3, e2x_212)]
set_option maxRecDepth 1000000 in
theorem co_d237 : e2_okSB E_d237.length as_d237 f_d237 rs_d237 = true := by decide +kernel
def al_d237_0 : List ev_V := [(2, 83, 0), (11, 2147483648, 2147483650), (1, 4, 4294967296)]
def E_d237_0 : e2_E := [(2147483648, 2147583648, 0, 0), (2147483648, 2147483656, 1, 0), (2147483648, 2147483688, 2, 0), (2147483648, 2147483688, 3, 0), (2147483648, 2147483674, 4, 0)]
noncomputable def h_d237_0 : ev_H := (dn1912 : e2_Q8)
noncomputable def cl_d237_e : List (Nat × e2_S) := [(13, e2_cutL (al_d237_0.set 2 (11, 2147483648, 2147483674)) 4 (E_d237_0.take 4) h_d237_0)]
set_option maxRecDepth 1000000 in
theorem ck_d237_e : e2_run (e2_cal S_d237 I_d237 4000 1) (e2_fin rs_d237) e2x_286 (e2_bpL cl_d237_e) (e2_cutA cl_d237_e) 4000 (e2_seek e2x_286 0) (e2_al 3 as_d237) [] E_d237 f_d237 = true := by decide +kernel
noncomputable def cl_d237_0 : List (Nat × e2_S) := [(13, e2_cutL (al_d237_0.set 2 (13, 12, 2147483674)) 4 (E_d237_0.take 4) h_d237_0)]
set_option maxRecDepth 1000000 in
theorem ck_d237_0 : e2_runM (e2_cal S_d237 I_d237 4000 1) (e2_fin rs_d237) e2x_286 (e2_bpL cl_d237_0) (e2_cutA cl_d237_0) 4000 (e2_seek e2x_286 13) al_d237_0 [] E_d237_0 h_d237_0 = true := by decide +kernel
set_option maxRecDepth 1000000 in
theorem ci_d237_0 : e2_idl 4 (al_d237_0.set 2 (9, 0, 0)) = true := by decide +kernel
set_option maxRecDepth 1000000 in
theorem cj_d237_0 : e2_idh 4 8 h_d237_0 = true := by decide +kernel
theorem cs_d237 (hen : en_ok) (l : Launch) : e2_smOk l 2 s_d237 := by
  refine e2_conG (H := 0) (n := 1) (C := evd_286) (S := S_d237) (I := I_d237) (fuel := 4000) hen ei_286 e2_fz (e2_fa ein_212 e2_fz) (by decide) co_d237 fun M d _ hC hcall p e R s m args below meth c Q D cA A ads r0 ha hl0 => ?_
  have L_0 : e2_gdM M p l e R s m args below meth c Q D cA A ads r0 13 al_d237_0 [] E_d237_0 h_d237_0 := by
    refine e2_indL (u := 4) (j := 2) (lo := 2147483648) (hi := 2147483674) (b := 4) (dd := 0) hl0 (by decide) rfl rfl (Or.inr ⟨rfl, rfl⟩) rfl ci_d237_0 cj_d237_0 ?_
    intro r_0 k_0 hk_0 hp_0 hs_0 hn_0
    have hl_0 : r_0.length ≤ 5 := hs_0.len rfl
    have ha_0 := ha.ext hp_0
    exact e2_fromM hen ha_0 hcall (e2_cutA_ok (e2_fa (fun al st E h hc => hn_0 al st E h hc) e2_fz)) (hC [25, 27]) (X := e2x_286) ex2_286 13 ck_d237_0
  have EN_0 := e2_entL (u := 4) (j := 2) (lo := 2147483648) (hi := 2147483674) hl0 rfl rfl rfl ci_d237_0 cj_d237_0 L_0
  exact e2_from hen ha hcall (e2_cutA_ok (e2_fa (fun al st E h hc => EN_0 al st E h hc) e2_fz)) (hC [25, 27]) (X := e2x_286) ex2_286 0 ck_d237_e
/-! d238 X10_back -/
def as_d238 : List ev_V := [(2, 83, 0), (11, 0, 4294967295)]
def E_d238 : e2_E := [(2147483648, 2147583648, 0, 0), (2147483648, 2147483656, 1, 0), (2147483648, 2147483688, 2, 0), (2147483648, 2147483688, 3, 0)]
noncomputable def f_d238 : ev_H := (dn1912 : e2_Q8)
noncomputable def q_d238_0 : ev_H := (dn1912 : e2_Q8)
def dc223 : ev_C := (10, [(0, 1, 0), (2, 88, 0), (2, 115, 0), (2, 114, 0), (2, 86, 0), (2, 112, 0), (0, 0, 0), (2, 118, 0), (2, 120, 0), (2, 131, 0), (2, 91, 0), (11, 2147483648, 2147483668), (2, 123, 0), (11, 2147483648, 2147483649), (11, 2147483648, 2147485248), (2, 87, 0), (2, 84, 0), (2, 122, 0), (2, 100, 0), (2, 132, 0), (11, 2147483648, 2147483668), (11, 2147483648, 2147485248), (1, 0, 4294967296), (11, 0, 4294967295), (11, 2147483648, 2147485248), (2, 93, 0), (2, 104, 0), (11, 2147483648, 2147483678), (2, 89, 0), (2, 92, 0), (2, 119, 0), (2, 90, 0), (2, 94, 0), (2, 103, 0), (0, 0, 0), (11, 0, 4294967295), (11, 0, 4294967295), (11, 2147483648, 2147485249), (11, 2147483648, 2147483653), (11, 2147483648, 2147483668), (2, 85, 0), (11, 2147483648, 2147493647), (5, 0, 0), (2, 95, 0), (2, 96, 0), (2, 97, 0), (2, 98, 0), (2, 99, 0), (2, 101, 0), (2, 102, 0), (2, 105, 0), (2, 106, 0), (2, 107, 0), (2, 108, 0), (2, 109, 0), (2, 110, 0), (2, 111, 0), (11, 2147483648, 2147484768), (11, 2147482048, 2147483655), (11, 2147483648, 2147483738), (11, 2147483648, 2147483678), (11, 0, 4294967295), (11, 0, 4294967295), (11, 0, 4294967295), (11, 0, 4294967295), (11, 0, 4294967295), (2, 113, 0), (2, 116, 0), (2, 117, 0), (2, 121, 0), (11, 0, 4294967295), (11, 0, 4294967295), (2, 124, 0), (2, 125, 0), (11, 0, 4294967295), (2, 126, 0), (2, 127, 0), (2, 128, 0), (2, 129, 0), (2, 130, 0)])
def dn1913 : e2_Q1 := (dc223, dc3)
def dn1914 : e2_Q2 := (dn197, dn1913)
def dn1915 : e2_Q3 := (dn1914, dn202)
def dn1916 : e2_Q4 := (dn1907, dn1915)
def dn1917 : e2_Q5 := (dn1916, dn219)
def dn1918 : e2_Q6 := (dn1917, dn251)
def dn1919 : e2_Q7 := (dn189, dn1918)
def dn1920 : e2_Q8 := (dn1904, dn1919)
noncomputable def q_d238_1 : ev_H := (dn1920 : e2_Q8)
noncomputable def rs_d238 : e2_Rs := [((0, 4294967295, 0), q_d238_0), ((11, 0, 4294967295), q_d238_1)]
noncomputable def s_d238 : e2_Sm := (287, as_d238, E_d238, f_d238, rs_d238)
noncomputable def S_d238 : List e2_Sm := []
noncomputable def I_d238 : List e2_In := [(212, 3, e2x_212)]
set_option maxRecDepth 1000000 in
theorem co_d238 : e2_okSB E_d238.length as_d238 f_d238 rs_d238 = true := by decide +kernel
def al_d238_0 : List ev_V := [(2, 83, 0), (11, 2147483648, 2147483650), (1, 4, 4294967296)]
def E_d238_0 : e2_E := [(2147483648, 2147583648, 0, 0), (2147483648, 2147483656, 1, 0), (2147483648, 2147483688, 2, 0), (2147483648, 2147483688, 3, 0), (2147483648, 2147483674, 4, 0)]
noncomputable def h_d238_0 : ev_H := (dn1912 : e2_Q8)
noncomputable def cl_d238_e : List (Nat × e2_S) := [(22, e2_cutL (al_d238_0.set 2 (11, 2147483648, 2147483674)) 4 (E_d238_0.take 4) h_d238_0)]
set_option maxRecDepth 1000000 in
theorem ck_d238_e : e2_run (e2_cal S_d238 I_d238 4000 1) (e2_fin rs_d238) e2x_287 (e2_bpL cl_d238_e) (e2_cutA cl_d238_e) 4000 (e2_seek e2x_287 0) (e2_al 3 as_d238) [] E_d238 f_d238 = true := by decide +kernel
noncomputable def cl_d238_0 : List (Nat × e2_S) := [(22, e2_cutL (al_d238_0.set 2 (13, 12, 2147483674)) 4 (E_d238_0.take 4) h_d238_0)]
set_option maxRecDepth 1000000 in
theorem ck_d238_0 : e2_runM (e2_cal S_d238 I_d238 4000 1) (e2_fin rs_d238) e2x_287 (e2_bpL cl_d238_0) (e2_cutA cl_d238_0) 4000 (e2_seek e2x_287 22) al_d238_0 [] E_d238_0 h_d238_0 = true := by decide +kernel
set_option maxRecDepth 1000000 in
theorem ci_d238_0 : e2_idl 4 (al_d238_0.set 2 (9, 0, 0)) = true := by decide +kernel
set_option maxRecDepth 1000000 in
theorem cj_d238_0 : e2_idh 4 8 h_d238_0 = true := by decide +kernel
theorem cs_d238 (hen : en_ok) (l : Launch) : e2_smOk l 2 s_d238 := by
  refine e2_conG (H := 0) (n := 1) (C := evd_287) (S := S_d238) (I := I_d238) (fuel := 4000) hen ei_287 e2_fz (e2_fa ein_212 e2_fz) (by decide) co_d238 fun M d _ hC hcall p e R s m args below meth c Q D cA A ads r0 ha hl0 => ?_
  have L_0 : e2_gdM M p l e R s m args below meth c Q D cA A ads r0 22 al_d238_0 [] E_d238_0 h_d238_0 := by
    refine e2_indL (u := 4) (j := 2) (lo := 2147483648) (hi := 2147483674) (b := 4) (dd := 0) hl0 (by decide) rfl rfl (Or.inr ⟨rfl, rfl⟩) rfl ci_d238_0 cj_d238_0 ?_
    intro r_0 k_0 hk_0 hp_0 hs_0 hn_0
    have hl_0 : r_0.length ≤ 5 := hs_0.len rfl
    have ha_0 := ha.ext hp_0
    exact e2_fromM hen ha_0 hcall (e2_cutA_ok (e2_fa (fun al st E h hc => hn_0 al st E h hc) e2_fz)) (hC [32, 39]) (X := e2x_287) ex2_287 22 ck_d238_0
  have EN_0 := e2_entL (u := 4) (j := 2) (lo := 2147483648) (hi := 2147483674) hl0 rfl rfl rfl ci_d238_0 cj_d238_0 L_0
  exact e2_from hen ha hcall (e2_cutA_ok (e2_fa (fun al st E h hc => EN_0 al st E h hc) e2_fz)) (hC [32, 39]) (X := e2x_287) ex2_287 0 ck_d238_e
/-! d239 X10_about -/
def as_d239 : List ev_V := [(2, 83, 0), (11, 0, 4294967295)]
def E_d239 : e2_E := [(2147483648, 2147583648, 0, 0), (2147483648, 2147483656, 1, 0), (2147483648, 2147483688, 2, 0), (2147483648, 2147483688, 3, 0)]
def dn1921 : e2_Q5 := (dn14, dn433)
def dc224 : ev_C := (50, [(11, 2147483648, 2147483708), (11, 2147483648, 2147483708)])
def dn1922 : e2_Q1 := (dc224, dc3)
def dn1923 : e2_Q2 := (dn53, dn1922)
def dn1924 : e2_Q3 := (dn1923, dn58)
def dn1925 : e2_Q4 := (dn52, dn1924)
def dn1926 : e2_Q5 := (dn45, dn1925)
def dn1927 : e2_Q6 := (dn1921, dn1926)
def dn1928 : e2_Q7 := (dn1927, dn349)
def dn1929 : e2_Q2 := (dn149, dn353)
def dn1930 : e2_Q3 := (dn1929, dn154)
def dn1931 : e2_Q4 := (dn148, dn1930)
def dn1932 : e2_Q5 := (dn141, dn1931)
def dn1933 : e2_Q6 := (dn1932, dn188)
def dn1934 : e2_Q6 := (dn357, dn1659)
def dn1935 : e2_Q7 := (dn1933, dn1934)
def dn1936 : e2_Q8 := (dn1928, dn1935)
noncomputable def f_d239 : ev_H := (dn1936 : e2_Q8)
noncomputable def q_d239_0 : ev_H := (dn1936 : e2_Q8)
noncomputable def rs_d239 : e2_Rs := [((11, 0, 4294967295), q_d239_0)]
noncomputable def s_d239 : e2_Sm := (288, as_d239, E_d239, f_d239, rs_d239)
noncomputable def S_d239 : List e2_Sm := [s_d11]
noncomputable def I_d239 : List e2_In := [(216, 1, e2x_216), (217, 1, e2x_217)]
set_option maxRecDepth 1000000 in
theorem ck_d239 : e2_run (e2_cal S_d239 I_d239 4000 1) (e2_fin rs_d239) e2x_288 (fun _ => false) (fun _ _ _ _ _ => false) 4000 (e2_seek e2x_288 0) (e2_al 2 as_d239) [] E_d239 f_d239 = true := by decide +kernel
set_option maxRecDepth 1000000 in
theorem co_d239 : e2_okSB E_d239.length as_d239 f_d239 rs_d239 = true := by decide +kernel
theorem cs_d239 (hen : en_ok) (l : Launch) : e2_smOk l 4 s_d239 := e2_con0 (H := 2) (n := 1) (C := evd_288) (S := S_d239) (I := I_d239) (fuel := 4000) [] hen ei_288 (e2_fa (cs_d11 hen l) e2_fz) (e2_fa ein_216 (e2_fa ein_217 e2_fz)) (by decide) co_d239 ex2_288 ck_d239
/-! d240 X10_feed -/
def as_d240 : List ev_V := [(2, 83, 0), (11, 0, 4294967295), (11, 0, 4294967295), (11, 0, 4294967295), (11, 0, 4294967295), (11, 0, 4294967295)]
def E_d240 : e2_E := [(2147483648, 2147583648, 0, 0), (2147483648, 2147483656, 1, 0), (2147483648, 2147483688, 2, 0), (2147483648, 2147483688, 3, 0)]
def dc225 : ev_C := (55, [(0, 1620, 0), (11, 2147483520, 2147483775)])
def dn1937 : e2_Q1 := (dc225, dc3)
def dn1938 : e2_Q2 := (dn38, dn1937)
def dn1939 : e2_Q3 := (dn1938, dn43)
def dn1940 : e2_Q4 := (dn37, dn1939)
def dn1941 : e2_Q5 := (dn1940, dn60)
def dn1942 : e2_Q6 := (dn267, dn1941)
def dn1943 : e2_Q7 := (dn1942, dn274)
def dn1944 : e2_Q8 := (dn1943, dn253)
noncomputable def f_d240 : ev_H := (dn1944 : e2_Q8)
def dc226 : ev_C := (10, [(0, 1, 0), (2, 88, 0), (2, 115, 0), (2, 114, 0), (2, 86, 0), (2, 112, 0), (1, 2, 4294967296), (2, 118, 0), (2, 120, 0), (2, 131, 0), (2, 91, 0), (11, 2147483648, 2147483668), (2, 123, 0), (11, 2147483648, 2147483649), (11, 2147483668, 2147485248), (2, 87, 0), (2, 84, 0), (2, 122, 0), (2, 100, 0), (2, 132, 0), (11, 2147483648, 2147483668), (11, 2147483648, 2147485248), (1, 0, 4294967296), (11, 0, 4294967295), (11, 2147483648, 2147485248), (2, 93, 0), (2, 104, 0), (11, 2147483648, 2147483678), (2, 89, 0), (2, 92, 0), (2, 119, 0), (2, 90, 0), (2, 94, 0), (2, 103, 0), (1, 3, 4294967296), (11, 0, 4294967295), (11, 0, 4294967295), (11, 2147483648, 2147485249), (11, 2147483648, 2147483653), (11, 2147483648, 2147483668), (2, 85, 0), (11, 2147483648, 2147493647), (5, 0, 0), (2, 95, 0), (2, 96, 0), (2, 97, 0), (2, 98, 0), (2, 99, 0), (2, 101, 0), (2, 102, 0), (2, 105, 0), (2, 106, 0), (2, 107, 0), (2, 108, 0), (2, 109, 0), (2, 110, 0), (2, 111, 0), (11, 2147483648, 2147484768), (11, 2147482048, 2147483655), (11, 2147483648, 2147483738), (11, 2147483648, 2147483678), (11, 0, 4294967295), (11, 0, 4294967295), (11, 0, 4294967295), (11, 0, 4294967295), (11, 0, 4294967295), (2, 113, 0), (2, 116, 0), (2, 117, 0), (2, 121, 0), (11, 0, 4294967295), (11, 0, 4294967295), (2, 124, 0), (2, 125, 0), (11, 0, 4294967295), (2, 126, 0), (2, 127, 0), (2, 128, 0), (2, 129, 0), (2, 130, 0)])
def dn1945 : e2_Q1 := (dc226, dc3)
def dn1946 : e2_Q2 := (dn197, dn1945)
def dn1947 : e2_Q3 := (dn1946, dn202)
def dn1948 : e2_Q4 := (dn196, dn1947)
def dn1949 : e2_Q5 := (dn1948, dn219)
def dn1950 : e2_Q6 := (dn1949, dn251)
def dn1951 : e2_Q7 := (dn189, dn1950)
def dn1952 : e2_Q8 := (dn1943, dn1951)
noncomputable def q_d240_0 : ev_H := (dn1952 : e2_Q8)
noncomputable def rs_d240 : e2_Rs := [((11, 2147483647, 2147485248), q_d240_0)]
noncomputable def s_d240 : e2_Sm := (289, as_d240, E_d240, f_d240, rs_d240)
noncomputable def S_d240 : List e2_Sm := []
noncomputable def I_d240 : List e2_In := []
set_option maxRecDepth 1000000 in
theorem co_d240 : e2_okSB E_d240.length as_d240 f_d240 rs_d240 = true := by decide +kernel
def al_d240_0 : List ev_V := [(2, 83, 0), (11, 0, 4294967295), (11, 0, 4294967295), (11, 0, 4294967295), (11, 0, 4294967295), (11, 0, 4294967295), (1, 4, 4294967296), (9, 0, 0)]
def E_d240_0 : e2_E := [(2147483648, 2147583648, 0, 0), (2147483648, 2147483656, 1, 0), (2147483648, 2147483688, 2, 0), (2147483648, 2147483688, 3, 0), (2147483648, 2147483668, 4, 0)]
def dc227 : ev_C := (10, [(0, 1, 0), (2, 88, 0), (2, 115, 0), (2, 114, 0), (2, 86, 0), (2, 112, 0), (1, 2, 4294967296), (2, 118, 0), (2, 120, 0), (2, 131, 0), (2, 91, 0), (11, 2147483648, 2147483668), (2, 123, 0), (11, 2147483648, 2147483649), (11, 2147483648, 2147485228), (2, 87, 0), (2, 84, 0), (2, 122, 0), (2, 100, 0), (2, 132, 0), (11, 2147483648, 2147483668), (11, 2147483648, 2147485248), (1, 0, 4294967296), (11, 0, 4294967295), (11, 2147483648, 2147485248), (2, 93, 0), (2, 104, 0), (11, 2147483648, 2147483678), (2, 89, 0), (2, 92, 0), (2, 119, 0), (2, 90, 0), (2, 94, 0), (2, 103, 0), (1, 3, 4294967296), (11, 0, 4294967295), (11, 0, 4294967295), (11, 2147483648, 2147485249), (11, 2147483648, 2147483653), (11, 2147483648, 2147483668), (2, 85, 0), (11, 2147483648, 2147493647), (5, 0, 0), (2, 95, 0), (2, 96, 0), (2, 97, 0), (2, 98, 0), (2, 99, 0), (2, 101, 0), (2, 102, 0), (2, 105, 0), (2, 106, 0), (2, 107, 0), (2, 108, 0), (2, 109, 0), (2, 110, 0), (2, 111, 0), (11, 2147483648, 2147484768), (11, 2147482048, 2147483655), (11, 2147483648, 2147483738), (11, 2147483648, 2147483678), (11, 0, 4294967295), (11, 0, 4294967295), (11, 0, 4294967295), (11, 0, 4294967295), (11, 0, 4294967295), (2, 113, 0), (2, 116, 0), (2, 117, 0), (2, 121, 0), (11, 0, 4294967295), (11, 0, 4294967295), (2, 124, 0), (2, 125, 0), (11, 0, 4294967295), (2, 126, 0), (2, 127, 0), (2, 128, 0), (2, 129, 0), (2, 130, 0)])
def dn1953 : e2_Q1 := (dc227, dc3)
def dn1954 : e2_Q2 := (dn197, dn1953)
def dn1955 : e2_Q3 := (dn1954, dn202)
def dn1956 : e2_Q4 := (dn196, dn1955)
def dn1957 : e2_Q5 := (dn1956, dn219)
def dn1958 : e2_Q6 := (dn1957, dn251)
def dn1959 : e2_Q7 := (dn189, dn1958)
def dn1960 : e2_Q8 := (dn1943, dn1959)
noncomputable def h_d240_0 : ev_H := (dn1960 : e2_Q8)
noncomputable def cl_d240_e : List (Nat × e2_S) := [(18, e2_cutL (al_d240_0.set 6 (11, 2147483648, 2147483668)) 4 (E_d240_0.take 4) h_d240_0)]
set_option maxRecDepth 1000000 in
theorem ck_d240_e : e2_run (e2_cal S_d240 I_d240 4000 0) (e2_fin rs_d240) e2x_289 (e2_bpL cl_d240_e) (e2_cutA cl_d240_e) 4000 (e2_seek e2x_289 0) (e2_al 8 as_d240) [] E_d240 f_d240 = true := by decide +kernel
noncomputable def cl_d240_0 : List (Nat × e2_S) := [(18, e2_cutL (al_d240_0.set 6 (13, 12, 2147483668)) 4 (E_d240_0.take 4) h_d240_0)]
set_option maxRecDepth 1000000 in
theorem ck_d240_0 : e2_runM (e2_cal S_d240 I_d240 4000 0) (e2_fin rs_d240) e2x_289 (e2_bpL cl_d240_0) (e2_cutA cl_d240_0) 4000 (e2_seek e2x_289 18) al_d240_0 [] E_d240_0 h_d240_0 = true := by decide +kernel
set_option maxRecDepth 1000000 in
theorem ci_d240_0 : e2_idl 4 (al_d240_0.set 6 (9, 0, 0)) = true := by decide +kernel
set_option maxRecDepth 1000000 in
theorem cj_d240_0 : e2_idh 4 8 h_d240_0 = true := by decide +kernel
theorem cs_d240 (hen : en_ok) (l : Launch) : e2_smOk l 1 s_d240 := by
  refine e2_conG (H := 0) (n := 0) (C := evd_289) (S := S_d240) (I := I_d240) (fuel := 4000) hen ei_289 e2_fz e2_fz (by decide) co_d240 fun M d _ hC hcall p e R s m args below meth c Q D cA A ads r0 ha hl0 => ?_
  have L_0 : e2_gdM M p l e R s m args below meth c Q D cA A ads r0 18 al_d240_0 [] E_d240_0 h_d240_0 := by
    refine e2_indL (u := 4) (j := 6) (lo := 2147483648) (hi := 2147483668) (b := 4) (dd := 0) hl0 (by decide) rfl rfl (Or.inr ⟨rfl, rfl⟩) rfl ci_d240_0 cj_d240_0 ?_
    intro r_0 k_0 hk_0 hp_0 hs_0 hn_0
    have hl_0 : r_0.length ≤ 5 := hs_0.len rfl
    have ha_0 := ha.ext hp_0
    exact e2_fromM hen ha_0 hcall (e2_cutA_ok (e2_fa (fun al st E h hc => hn_0 al st E h hc) e2_fz)) (hC []) (X := e2x_289) ex2_289 18 ck_d240_0
  have EN_0 := e2_entL (u := 4) (j := 6) (lo := 2147483648) (hi := 2147483668) hl0 rfl rfl rfl ci_d240_0 cj_d240_0 L_0
  exact e2_from hen ha hcall (e2_cutA_ok (e2_fa (fun al st E h hc => EN_0 al st E h hc) e2_fz)) (hC []) (X := e2x_289) ex2_289 0 ck_d240_e
