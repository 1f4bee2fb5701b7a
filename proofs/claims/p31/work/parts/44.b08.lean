/-! CONTRACTS b, printed by a program -/
/-! b266 X10_cows -/
def as_b266 : List ev_V := [(2, 83, 0), (11, 0, 4294967295), (11, 0, 4294967295)]
def E_b266 : e2_E := [(2147483648, 2147583648, 0, 0), (2147483648, 2147483656, 1, 0)]
noncomputable def f_b266 : ev_H := (bn2020 : e2_Q8)
noncomputable def q_b266_0 : ev_H := (bn2020 : e2_Q8)
noncomputable def rs_b266 : e2_Rs := [((11, 0, 4294967295), q_b266_0)]
noncomputable def s_b266 : e2_Sm := (271, as_b266, E_b266, f_b266, rs_b266)
noncomputable def S_b266 : List e2_Sm := [s_b68, s_b215, s_b216, s_b229, s_b230, s_b231]
noncomputable def I_b266 : List e2_In := [(212, 3, e2x_212), (215, 2, e2x_215), (216, 1, e2x_216), (220, 2, e2x_220)]
set_option maxRecDepth 1000000 in
theorem co_b266 : e2_okSB E_b266.length as_b266 f_b266 rs_b266 = true := by decide +kernel
def al_b266_0 : List ev_V := [(2, 83, 0), (11, 2147483648, 2147483651), (11, 2147483648, 2147483649), (11, 0, 4294967295), (11, 0, 4294967295), (1, 2, 4294967296)]
def E_b266_0 : e2_E := [(2147483648, 2147583648, 0, 0), (2147483648, 2147483656, 1, 0), (2147483648, 2147483668, 2, 0)]
noncomputable def h_b266_0 : ev_H := (bn2020 : e2_Q8)
noncomputable def cl_b266_e : List (Nat × e2_S) := [(36, e2_cutL (al_b266_0.set 5 (11, 2147483648, 2147483668)) 2 (E_b266_0.take 2) h_b266_0)]
set_option maxRecDepth 1000000 in
theorem ck_b266_e : e2_run (e2_cal S_b266 I_b266 4000 2) (e2_fin rs_b266) e2x_271 (e2_bpL cl_b266_e) (e2_cutA cl_b266_e) 4000 (e2_seek e2x_271 0) (e2_al 6 as_b266) [] E_b266 f_b266 = true := by decide +kernel
noncomputable def cl_b266_0 : List (Nat × e2_S) := [(36, e2_cutL (al_b266_0.set 5 (13, 10, 2147483668)) 2 (E_b266_0.take 2) h_b266_0)]
set_option maxRecDepth 1000000 in
theorem ck_b266_0 : e2_runM (e2_cal S_b266 I_b266 4000 2) (e2_fin rs_b266) e2x_271 (e2_bpL cl_b266_0) (e2_cutA cl_b266_0) 4000 (e2_seek e2x_271 36) al_b266_0 [] E_b266_0 h_b266_0 = true := by decide +kernel
set_option maxRecDepth 1000000 in
theorem ci_b266_0 : e2_idl 2 (al_b266_0.set 5 (9, 0, 0)) = true := by decide +kernel
set_option maxRecDepth 1000000 in
theorem cj_b266_0 : e2_idh 2 8 h_b266_0 = true := by decide +kernel
theorem cs_b266 (hen : en_ok) (l : Launch) (hh : e2_hand_b l) : e2_smOk l 66 s_b266 := by
  refine e2_conG (H := 63) (n := 2) (C := evd_271) (S := S_b266) (I := I_b266) (fuel := 4000) hen ei_271 (e2_fa (hh _ hm_b68) (e2_fa ((cs_b215 hen l).mono (by decide)) (e2_fa ((cs_b216 hen l).mono (by decide)) (e2_fa ((cs_b229 hen l).mono (by decide)) (e2_fa (cs_b230 hen l hh) (e2_fa ((cs_b231 hen l).mono (by decide)) e2_fz)))))) (e2_fa ein_212 (e2_fa ein_215 (e2_fa ein_216 (e2_fa ein_220 e2_fz)))) (by decide) co_b266 fun M d _ hC hcall p e R s m args below meth c Q D cA A ads r0 ha hl0 => ?_
  have L_0 : e2_gdM M p l e R s m args below meth c Q D cA A ads r0 36 al_b266_0 [] E_b266_0 h_b266_0 := by
    refine e2_indL (u := 2) (j := 5) (lo := 2147483648) (hi := 2147483668) (b := 2) (dd := 0) hl0 (by decide) rfl rfl (Or.inr ⟨rfl, rfl⟩) rfl ci_b266_0 cj_b266_0 ?_
    intro r_0 k_0 hk_0 hp_0 hs_0 hn_0
    have hl_0 : r_0.length ≤ 3 := hs_0.len rfl
    have ha_0 := ha.ext hp_0
    exact e2_fromM hen ha_0 hcall (e2_cutA_ok (e2_fa (fun al st E h hc => hn_0 al st E h hc) e2_fz)) (hC []) (X := e2x_271) ex2_271 36 ck_b266_0
  have EN_0 := e2_entL (u := 2) (j := 5) (lo := 2147483648) (hi := 2147483668) hl0 rfl rfl rfl ci_b266_0 cj_b266_0 L_0
  exact e2_from hen ha hcall (e2_cutA_ok (e2_fa (fun al st E h hc => EN_0 al st E h hc) e2_fz)) (hC []) (X := e2x_271) ex2_271 0 ck_b266_e
/-! b267 X10_answered -/
def as_b267 : List ev_V := [(2, 83, 0), (11, 2147483648, 2147483651), (11, 0, 4294967295), (11, 0, 4294967295)]
def E_b267 : e2_E := [(2147483648, 2147583648, 0, 0), (2147483648, 2147483656, 1, 0)]
def bn2138 : e2_Q7 := (bn1915, bn2043)
def bn2139 : e2_Q8 := (bn2036, bn2138)
noncomputable def f_b267 : ev_H := (bn2139 : e2_Q8)
noncomputable def q_b267_0 : ev_H := (bn2139 : e2_Q8)
noncomputable def rs_b267 : e2_Rs := [((11, 0, 4294967295), q_b267_0)]
noncomputable def s_b267 : e2_Sm := (272, as_b267, E_b267, f_b267, rs_b267)
noncomputable def S_b267 : List e2_Sm := [s_b229, s_b231]
noncomputable def I_b267 : List e2_In := [(215, 2, e2x_215), (216, 1, e2x_216)]
set_option maxRecDepth 1000000 in
theorem co_b267 : e2_okSB E_b267.length as_b267 f_b267 rs_b267 = true := by decide +kernel
def al_b267_0 : List ev_V := [(2, 83, 0), (11, 2147483648, 2147483651), (11, 0, 4294967295), (11, 0, 4294967295), (11, 0, 4294967295), (1, 2, 4294967296), (9, 0, 0)]
def E_b267_0 : e2_E := [(2147483648, 2147583648, 0, 0), (2147483648, 2147483656, 1, 0), (2147483648, 2147483668, 2, 0)]
noncomputable def h_b267_0 : ev_H := (bn2139 : e2_Q8)
noncomputable def cl_b267_e : List (Nat × e2_S) := [(11, e2_cutL (al_b267_0.set 5 (11, 2147483648, 2147483668)) 2 (E_b267_0.take 2) h_b267_0)]
set_option maxRecDepth 1000000 in
theorem ck_b267_e : e2_run (e2_cal S_b267 I_b267 4000 1) (e2_fin rs_b267) e2x_272 (e2_bpL cl_b267_e) (e2_cutA cl_b267_e) 4000 (e2_seek e2x_272 0) (e2_al 7 as_b267) [] E_b267 f_b267 = true := by decide +kernel
noncomputable def cl_b267_0 : List (Nat × e2_S) := [(11, e2_cutL (al_b267_0.set 5 (13, 10, 2147483668)) 2 (E_b267_0.take 2) h_b267_0)]
set_option maxRecDepth 1000000 in
theorem ck_b267_0 : e2_runM (e2_cal S_b267 I_b267 4000 1) (e2_fin rs_b267) e2x_272 (e2_bpL cl_b267_0) (e2_cutA cl_b267_0) 4000 (e2_seek e2x_272 11) al_b267_0 [] E_b267_0 h_b267_0 = true := by decide +kernel
set_option maxRecDepth 1000000 in
theorem ci_b267_0 : e2_idl 2 (al_b267_0.set 5 (9, 0, 0)) = true := by decide +kernel
set_option maxRecDepth 1000000 in
theorem cj_b267_0 : e2_idh 2 8 h_b267_0 = true := by decide +kernel
theorem cs_b267 (hen : en_ok) (l : Launch) : e2_smOk l 7 s_b267 := by
  refine e2_conG (H := 5) (n := 1) (C := evd_272) (S := S_b267) (I := I_b267) (fuel := 4000) hen ei_272 (e2_fa (cs_b229 hen l) (e2_fa ((cs_b231 hen l).mono (by decide)) e2_fz)) (e2_fa ein_215 (e2_fa ein_216 e2_fz)) (by decide) co_b267 fun M d _ hC hcall p e R s m args below meth c Q D cA A ads r0 ha hl0 => ?_
  have L_0 : e2_gdM M p l e R s m args below meth c Q D cA A ads r0 11 al_b267_0 [] E_b267_0 h_b267_0 := by
    refine e2_indL (u := 2) (j := 5) (lo := 2147483648) (hi := 2147483668) (b := 2) (dd := 0) hl0 (by decide) rfl rfl (Or.inr ⟨rfl, rfl⟩) rfl ci_b267_0 cj_b267_0 ?_
    intro r_0 k_0 hk_0 hp_0 hs_0 hn_0
    have hl_0 : r_0.length ≤ 3 := hs_0.len rfl
    have ha_0 := ha.ext hp_0
    exact e2_fromM hen ha_0 hcall (e2_cutA_ok (e2_fa (fun al st E h hc => hn_0 al st E h hc) e2_fz)) (hC []) (X := e2x_272) ex2_272 11 ck_b267_0
  have EN_0 := e2_entL (u := 2) (j := 5) (lo := 2147483648) (hi := 2147483668) hl0 rfl rfl rfl ci_b267_0 cj_b267_0 L_0
  exact e2_from hen ha hcall (e2_cutA_ok (e2_fa (fun al st E h hc => EN_0 al st E h hc) e2_fz)) (hC []) (X := e2x_272) ex2_272 0 ck_b267_e
/-! b268 X10_isOpenSet -/
def as_b268 : List ev_V := [(2, 83, 0), (11, 0, 4294967295)]
def E_b268 : e2_E := [(2147483648, 2147583648, 0, 0), (2147483648, 2147483656, 1, 0)]
noncomputable def f_b268 : ev_H := (bn1326 : e2_Q8)
noncomputable def q_b268_0 : ev_H := (bn1326 : e2_Q8)
noncomputable def rs_b268 : e2_Rs := [((11, 2147483648, 2147483649), q_b268_0)]
noncomputable def s_b268 : e2_Sm := (273, as_b268, E_b268, f_b268, rs_b268)
noncomputable def S_b268 : List e2_Sm := [s_b216]
noncomputable def I_b268 : List e2_In := []
set_option maxRecDepth 1000000 in
theorem ck_b268 : e2_run (e2_cal S_b268 I_b268 4000 0) (e2_fin rs_b268) e2x_273 (fun _ => false) (fun _ _ _ _ _ => false) 4000 (e2_seek e2x_273 0) (e2_al 2 as_b268) [] E_b268 f_b268 = true := by decide +kernel
set_option maxRecDepth 1000000 in
theorem co_b268 : e2_okSB E_b268.length as_b268 f_b268 rs_b268 = true := by decide +kernel
theorem cs_b268 (hen : en_ok) (l : Launch) : e2_smOk l 6 s_b268 := e2_con0 (H := 5) (n := 0) (C := evd_273) (S := S_b268) (I := I_b268) (fuel := 4000) [] hen ei_273 (e2_fa (cs_b216 hen l) e2_fz) e2_fz (by decide) co_b268 ex2_273 ck_b268
/-! b269 X10_duel -/
def as_b269 : List ev_V := [(2, 83, 0), (11, 0, 4294967295), (11, 0, 4294967295), (11, 0, 4294967295), (11, 0, 4294967295)]
def E_b269 : e2_E := [(2147483648, 2147583648, 0, 0), (2147483648, 2147483656, 1, 0)]
noncomputable def f_b269 : ev_H := (bn2020 : e2_Q8)
noncomputable def q_b269_0 : ev_H := (bn2020 : e2_Q8)
noncomputable def rs_b269 : e2_Rs := [((11, 0, 4294967295), q_b269_0)]
noncomputable def s_b269 : e2_Sm := (274, as_b269, E_b269, f_b269, rs_b269)
noncomputable def S_b269 : List e2_Sm := [s_b215, s_b217, s_b267, s_b268]
noncomputable def I_b269 : List e2_In := [(212, 3, e2x_212), (215, 2, e2x_215), (216, 1, e2x_216), (220, 2, e2x_220)]
set_option maxRecDepth 1000000 in
theorem co_b269 : e2_okSB E_b269.length as_b269 f_b269 rs_b269 = true := by decide +kernel
def al_b269_0 : List ev_V := [(2, 83, 0), (11, 2147483648, 2147483651), (11, 0, 4294967295), (11, 0, 4294967295), (11, 2147483648, 2147483650), (11, 2147483647, 2147483667), (11, 0, 4294967295), (11, 0, 4294967295), (1, 2, 4294967296), (9, 0, 0)]
def E_b269_0 : e2_E := [(2147483648, 2147583648, 0, 0), (2147483648, 2147483656, 1, 0), (2147483648, 2147483668, 2, 0)]
noncomputable def h_b269_0 : ev_H := (bn2020 : e2_Q8)
noncomputable def cl_b269_e : List (Nat × e2_S) := [(60, e2_cutL (al_b269_0.set 8 (11, 2147483648, 2147483668)) 2 (E_b269_0.take 2) h_b269_0)]
set_option maxRecDepth 1000000 in
theorem ck_b269_e : e2_run (e2_cal S_b269 I_b269 4000 2) (e2_fin rs_b269) e2x_274 (e2_bpL cl_b269_e) (e2_cutA cl_b269_e) 4000 (e2_seek e2x_274 0) (e2_al 10 as_b269) [] E_b269 f_b269 = true := by decide +kernel
noncomputable def cl_b269_0 : List (Nat × e2_S) := [(60, e2_cutL (al_b269_0.set 8 (13, 10, 2147483668)) 2 (E_b269_0.take 2) h_b269_0)]
set_option maxRecDepth 1000000 in
theorem ck_b269_0 : e2_runM (e2_cal S_b269 I_b269 4000 2) (e2_fin rs_b269) e2x_274 (e2_bpL cl_b269_0) (e2_cutA cl_b269_0) 4000 (e2_seek e2x_274 60) al_b269_0 [] E_b269_0 h_b269_0 = true := by decide +kernel
set_option maxRecDepth 1000000 in
theorem ci_b269_0 : e2_idl 2 (al_b269_0.set 8 (9, 0, 0)) = true := by decide +kernel
set_option maxRecDepth 1000000 in
theorem cj_b269_0 : e2_idh 2 8 h_b269_0 = true := by decide +kernel
theorem cs_b269 (hen : en_ok) (l : Launch) (hh : e2_hand_b l) : e2_smOk l 65 s_b269 := by
  refine e2_conG (H := 62) (n := 2) (C := evd_274) (S := S_b269) (I := I_b269) (fuel := 4000) hen ei_274 (e2_fa ((cs_b215 hen l).mono (by decide)) (e2_fa (cs_b217 hen l hh) (e2_fa ((cs_b267 hen l).mono (by decide)) (e2_fa ((cs_b268 hen l).mono (by decide)) e2_fz)))) (e2_fa ein_212 (e2_fa ein_215 (e2_fa ein_216 (e2_fa ein_220 e2_fz)))) (by decide) co_b269 fun M d _ hC hcall p e R s m args below meth c Q D cA A ads r0 ha hl0 => ?_
  have L_0 : e2_gdM M p l e R s m args below meth c Q D cA A ads r0 60 al_b269_0 [] E_b269_0 h_b269_0 := by
    refine e2_indL (u := 2) (j := 8) (lo := 2147483648) (hi := 2147483668) (b := 2) (dd := 0) hl0 (by decide) rfl rfl (Or.inr ⟨rfl, rfl⟩) rfl ci_b269_0 cj_b269_0 ?_
    intro r_0 k_0 hk_0 hp_0 hs_0 hn_0
    have hl_0 : r_0.length ≤ 3 := hs_0.len rfl
    have ha_0 := ha.ext hp_0
    exact e2_fromM hen ha_0 hcall (e2_cutA_ok (e2_fa (fun al st E h hc => hn_0 al st E h hc) e2_fz)) (hC []) (X := e2x_274) ex2_274 60 ck_b269_0
  have EN_0 := e2_entL (u := 2) (j := 8) (lo := 2147483648) (hi := 2147483668) hl0 rfl rfl rfl ci_b269_0 cj_b269_0 L_0
  exact e2_from hen ha hcall (e2_cutA_ok (e2_fa (fun al st E h hc => EN_0 al st E h hc) e2_fz)) (hC []) (X := e2x_274) ex2_274 0 ck_b269_e
/-! b270 X10_heard -/
def as_b270 : List ev_V := [(2, 83, 0), (11, 0, 4294967295), (11, 0, 4294967295), (11, 0, 4294967295), (11, 2147483648, 2147483649)]
def E_b270 : e2_E := [(2147483648, 2147583648, 0, 0), (2147483648, 2147483656, 1, 0)]
def bc239 : ev_C := (54, [(0, 30, 0), (11, 0, 4294967295)])
def bn2140 : e2_Q1 := (bc0, bc239)
def bn2141 : e2_Q2 := (bn2140, bn1)
def bn2142 : e2_Q3 := (bn2141, bn5)
def bn2143 : e2_Q4 := (bn2142, bn13)
def bn2144 : e2_Q5 := (bn2143, bn1341)
def bn2145 : e2_Q6 := (bn2144, bn334)
def bn2146 : e2_Q1 := (bc239, bc3)
def bn2147 : e2_Q2 := (bn119, bn2146)
def bn2148 : e2_Q3 := (bn118, bn2147)
def bn2149 : e2_Q4 := (bn270, bn2148)
def bn2150 : e2_Q5 := (bn108, bn2149)
def bn2151 : e2_Q6 := (bn93, bn2150)
def bn2152 : e2_Q7 := (bn2145, bn2151)
def bn2153 : e2_Q1 := (bc68, bc239)
def bn2154 : e2_Q2 := (bn2153, bn128)
def bn2155 : e2_Q3 := (bn2154, bn132)
def bn2156 : e2_Q4 := (bn2155, bn140)
def bn2157 : e2_Q5 := (bn2156, bn156)
def bn2158 : e2_Q6 := (bn2157, bn338)
def bn2159 : e2_Q2 := (bn245, bn2146)
def bn2160 : e2_Q3 := (bn244, bn2159)
def bn2161 : e2_Q4 := (bn241, bn2160)
def bn2162 : e2_Q5 := (bn234, bn2161)
def bn2163 : e2_Q6 := (bn1319, bn2162)
def bn2164 : e2_Q7 := (bn2158, bn2163)
def bn2165 : e2_Q8 := (bn2152, bn2164)
noncomputable def f_b270 : ev_H := (bn2165 : e2_Q8)
noncomputable def q_b270_0 : ev_H := (bn2165 : e2_Q8)
noncomputable def rs_b270 : e2_Rs := [((11, 2147483647, 2147483677), q_b270_0)]
noncomputable def s_b270 : e2_Sm := (278, as_b270, E_b270, f_b270, rs_b270)
noncomputable def S_b270 : List e2_Sm := []
noncomputable def I_b270 : List e2_In := [(212, 3, e2x_212), (217, 1, e2x_217), (275, 1, e2x_275), (276, 2, e2x_276), (277, 3, e2x_277)]
set_option maxRecDepth 1000000 in
theorem ck_b270 : e2_run (e2_cal S_b270 I_b270 4000 3) (e2_fin rs_b270) e2x_278 (fun _ => false) (fun _ _ _ _ _ => false) 4000 (e2_seek e2x_278 0) (e2_al 5 as_b270) [] E_b270 f_b270 = true := by decide +kernel
set_option maxRecDepth 1000000 in
theorem co_b270 : e2_okSB E_b270.length as_b270 f_b270 rs_b270 = true := by decide +kernel
theorem cs_b270 (hen : en_ok) (l : Launch) : e2_smOk l 4 s_b270 := e2_con0 (H := 0) (n := 3) (C := evd_278) (S := S_b270) (I := I_b270) (fuel := 4000) [] hen ei_278 e2_fz (e2_fa ein_212 (e2_fa ein_217 (e2_fa ein_275 (e2_fa ein_276 (e2_fa ein_277 e2_fz))))) (by decide) co_b270 ex2_278 ck_b270
/-! b271 X10_doesFit -/
def as_b271 : List ev_V := [(2, 83, 0), (11, 2147483648, 4294967295), (11, 0, 4294967295)]
def E_b271 : e2_E := [(2147483648, 2147583648, 0, 0), (2147483648, 2147483656, 1, 0)]
def bn2166 : e2_Q5 := (bn2143, bn29)
def bn2167 : e2_Q6 := (bn2166, bn334)
def bn2168 : e2_Q7 := (bn2167, bn2151)
def bc240 : ev_C := (10, [(0, 0, 0), (2, 88, 0), (2, 115, 0), (2, 114, 0), (2, 86, 0), (2, 112, 0), (11, 2147483648, 2147483688), (2, 118, 0), (2, 120, 0), (2, 131, 0), (2, 91, 0), (11, 2147483648, 2147483668), (2, 123, 0), (11, 2147483648, 2147483649), (11, 2147483648, 2147485248), (2, 87, 0), (2, 84, 0), (2, 122, 0), (2, 100, 0), (2, 132, 0), (11, 2147483648, 2147483668), (11, 2147483648, 2147485248), (1, 0, 4294967296), (11, 2147483648, 2147483653), (11, 2147483648, 2147485248), (2, 93, 0), (2, 104, 0), (11, 2147483648, 2147483678), (2, 89, 0), (2, 92, 0), (2, 119, 0), (2, 90, 0), (2, 94, 0), (2, 103, 0), (11, 2147483648, 2147483688), (11, 0, 4294967295), (11, 0, 4294967295), (11, 2147483648, 2147485249), (11, 2147483648, 2147483653), (11, 2147483648, 2147483668), (2, 85, 0), (11, 0, 4294967295), (5, 0, 0), (2, 95, 0), (2, 96, 0), (2, 97, 0), (2, 98, 0), (2, 99, 0), (2, 101, 0), (2, 102, 0), (2, 105, 0), (2, 106, 0), (2, 107, 0), (2, 108, 0), (2, 109, 0), (2, 110, 0), (2, 111, 0), (11, 2147483648, 2147484768), (11, 2147482048, 2147483655), (11, 2147483648, 2147483738), (11, 2147483648, 2147483678), (11, 0, 4294967295), (11, 0, 4294967295), (11, 0, 4294967295), (11, 0, 4294967295), (11, 0, 4294967295), (2, 113, 0), (2, 116, 0), (2, 117, 0), (2, 121, 0), (11, 0, 4294967295), (11, 0, 4294967295), (2, 124, 0), (2, 125, 0), (11, 0, 4294967295), (2, 126, 0), (2, 127, 0), (2, 128, 0), (2, 129, 0), (2, 130, 0)])
def bn2169 : e2_Q1 := (bc240, bc3)
def bn2170 : e2_Q2 := (bn196, bn2169)
def bn2171 : e2_Q3 := (bn2170, bn201)
def bn2172 : e2_Q4 := (bn195, bn2171)
def bn2173 : e2_Q5 := (bn2172, bn289)
def bn2174 : e2_Q6 := (bn2173, bn2162)
def bn2175 : e2_Q7 := (bn2158, bn2174)
def bn2176 : e2_Q8 := (bn2168, bn2175)
noncomputable def f_b271 : ev_H := (bn2176 : e2_Q8)
noncomputable def q_b271_0 : ev_H := (bn2176 : e2_Q8)
noncomputable def rs_b271 : e2_Rs := [((11, 2147483648, 2147483649), q_b271_0)]
noncomputable def s_b271 : e2_Sm := (281, as_b271, E_b271, f_b271, rs_b271)
noncomputable def S_b271 : List e2_Sm := []
noncomputable def I_b271 : List e2_In := []
set_option maxRecDepth 1000000 in
theorem co_b271 : e2_okSB E_b271.length as_b271 f_b271 rs_b271 = true := by decide +kernel
def al_b271_0 : List ev_V := [(2, 83, 0), (11, 2147483648, 4294967295), (11, 0, 4294967295), (1, 2, 4294967296), (9, 0, 0)]
def E_b271_0 : e2_E := [(2147483648, 2147583648, 0, 0), (2147483648, 2147483656, 1, 0), (2147483648, 2147483678, 2, 0)]
noncomputable def h_b271_0 : ev_H := (bn2176 : e2_Q8)
noncomputable def cl_b271_e : List (Nat × e2_S) := [(2, e2_cutL (al_b271_0.set 3 (11, 2147483648, 2147483678)) 2 (E_b271_0.take 2) h_b271_0)]
set_option maxRecDepth 1000000 in
theorem ck_b271_e : e2_run (e2_cal S_b271 I_b271 4000 0) (e2_fin rs_b271) e2x_281 (e2_bpL cl_b271_e) (e2_cutA cl_b271_e) 4000 (e2_seek e2x_281 0) (e2_al 5 as_b271) [] E_b271 f_b271 = true := by decide +kernel
noncomputable def cl_b271_0 : List (Nat × e2_S) := [(2, e2_cutL (al_b271_0.set 3 (13, 10, 2147483678)) 2 (E_b271_0.take 2) h_b271_0)]
set_option maxRecDepth 1000000 in
theorem ck_b271_0 : e2_runM (e2_cal S_b271 I_b271 4000 0) (e2_fin rs_b271) e2x_281 (e2_bpL cl_b271_0) (e2_cutA cl_b271_0) 4000 (e2_seek e2x_281 2) al_b271_0 [] E_b271_0 h_b271_0 = true := by decide +kernel
set_option maxRecDepth 1000000 in
theorem ci_b271_0 : e2_idl 2 (al_b271_0.set 3 (9, 0, 0)) = true := by decide +kernel
set_option maxRecDepth 1000000 in
theorem cj_b271_0 : e2_idh 2 8 h_b271_0 = true := by decide +kernel
theorem cs_b271 (hen : en_ok) (l : Launch) : e2_smOk l 1 s_b271 := by
  refine e2_conG (H := 0) (n := 0) (C := evd_281) (S := S_b271) (I := I_b271) (fuel := 4000) hen ei_281 e2_fz e2_fz (by decide) co_b271 fun M d _ hC hcall p e R s m args below meth c Q D cA A ads r0 ha hl0 => ?_
  have L_0 : e2_gdM M p l e R s m args below meth c Q D cA A ads r0 2 al_b271_0 [] E_b271_0 h_b271_0 := by
    refine e2_indL (u := 2) (j := 3) (lo := 2147483648) (hi := 2147483678) (b := 2) (dd := 0) hl0 (by decide) rfl rfl (Or.inr ⟨rfl, rfl⟩) rfl ci_b271_0 cj_b271_0 ?_
    intro r_0 k_0 hk_0 hp_0 hs_0 hn_0
    have hl_0 : r_0.length ≤ 3 := hs_0.len rfl
    have ha_0 := ha.ext hp_0
    exact e2_fromM hen ha_0 hcall (e2_cutA_ok (e2_fa (fun al st E h hc => hn_0 al st E h hc) e2_fz)) (hC []) (X := e2x_281) ex2_281 2 ck_b271_0
  have EN_0 := e2_entL (u := 2) (j := 3) (lo := 2147483648) (hi := 2147483678) hl0 rfl rfl rfl ci_b271_0 cj_b271_0 L_0
  exact e2_from hen ha hcall (e2_cutA_ok (e2_fa (fun al st E h hc => EN_0 al st E h hc) e2_fz)) (hC []) (X := e2x_281) ex2_281 0 ck_b271_e
/-! b272 X10_layFit -/
def as_b272 : List ev_V := [(2, 83, 0), (11, 0, 4294967295)]
def E_b272 : e2_E := [(2147483648, 2147583648, 0, 0), (2147483648, 2147483656, 1, 0)]
def bc241 : ev_C := (54, [(0, 16, 0), (11, 0, 4294967295)])
def bn2177 : e2_Q1 := (bc35, bc241)
def bn2178 : e2_Q2 := (bn2177, bn64)
def bn2179 : e2_Q3 := (bn2178, bn68)
def bn2180 : e2_Q4 := (bn2179, bn76)
def bn2181 : e2_Q5 := (bn2180, bn92)
def bn2182 : e2_Q6 := (bn2181, bn2150)
def bn2183 : e2_Q7 := (bn2145, bn2182)
def bn2184 : e2_Q8 := (bn2183, bn2164)
noncomputable def f_b272 : ev_H := (bn2184 : e2_Q8)
def bn2185 : e2_Q8 := (bn2183, bn2175)
noncomputable def q_b272_0 : ev_H := (bn2185 : e2_Q8)
noncomputable def rs_b272 : e2_Rs := [((9, 0, 0), q_b272_0)]
noncomputable def s_b272 : e2_Sm := (282, as_b272, E_b272, f_b272, rs_b272)
noncomputable def S_b272 : List e2_Sm := [s_b271]
noncomputable def I_b272 : List e2_In := [(217, 1, e2x_217), (275, 1, e2x_275)]
set_option maxRecDepth 1000000 in
theorem co_b272 : e2_okSB E_b272.length as_b272 f_b272 rs_b272 = true := by decide +kernel
def al_b272_0 : List ev_V := [(2, 83, 0), (11, 0, 4294967295), (11, 2147483648, 2147483664), (1, 2, 4294967296), (9, 0, 0)]
def E_b272_0 : e2_E := [(2147483648, 2147583648, 0, 0), (2147483648, 2147483656, 1, 0), (2147483648, 2147483664, 2, 0)]
noncomputable def h_b272_0 : ev_H := (bn2184 : e2_Q8)
def al_b272_1 : List ev_V := [(2, 83, 0), (11, 0, 4294967295), (11, 2147483648, 2147483664), (1, 2, 4294967296), (9, 0, 0)]
def E_b272_1 : e2_E := [(2147483648, 2147583648, 0, 0), (2147483648, 2147483656, 1, 0), (2147483648, 4294967295, 2, 0)]
noncomputable def h_b272_1 : ev_H := (bn2185 : e2_Q8)
def al_b272_2 : List ev_V := [(2, 83, 0), (11, 0, 4294967295), (11, 2147483648, 2147483664), (1, 2, 4294967296), (1, 3, 4294967296)]
def E_b272_2 : e2_E := [(2147483648, 2147583648, 0, 0), (2147483648, 2147483656, 1, 0), (2147483648, 4294967294, 2, 0), (2147483648, 2147483664, 3, 0)]
noncomputable def h_b272_2 : ev_H := (bn2185 : e2_Q8)
noncomputable def cl_b272_e : List (Nat × e2_S) := [(17, e2_cutL (al_b272_0.set 3 (11, 2147483648, 2147483664)) 2 (E_b272_0.take 2) h_b272_0)]
set_option maxRecDepth 1000000 in
theorem ck_b272_e : e2_run (e2_cal S_b272 I_b272 4000 2) (e2_fin rs_b272) e2x_282 (e2_bpL cl_b272_e) (e2_cutA cl_b272_e) 4000 (e2_seek e2x_282 0) (e2_al 5 as_b272) [] E_b272 f_b272 = true := by decide +kernel
noncomputable def cl_b272_0 : List (Nat × e2_S) := [(17, e2_cutL (al_b272_0.set 3 (13, 10, 2147483664)) 2 (E_b272_0.take 2) h_b272_0),
  (37, e2_cutL (al_b272_1.set 3 (11, 2147483648, 4294967295)) 2 (E_b272_1.take 2) h_b272_1)]
set_option maxRecDepth 1000000 in
theorem ck_b272_0 : e2_runM (e2_cal S_b272 I_b272 4000 2) (e2_fin rs_b272) e2x_282 (e2_bpL cl_b272_0) (e2_cutA cl_b272_0) 4000 (e2_seek e2x_282 17) al_b272_0 [] E_b272_0 h_b272_0 = true := by decide +kernel
set_option maxRecDepth 1000000 in
theorem ci_b272_0 : e2_idl 2 (al_b272_0.set 3 (9, 0, 0)) = true := by decide +kernel
set_option maxRecDepth 1000000 in
theorem cj_b272_0 : e2_idh 2 8 h_b272_0 = true := by decide +kernel
noncomputable def cl_b272_1 : List (Nat × e2_S) := [(37, e2_cutL (al_b272_1.set 3 (13, 10, 4294967295)) 2 (E_b272_1.take 2) h_b272_1),
  (69, e2_cutL (al_b272_2.set 4 (11, 2147483648, 2147483664)) 3 (E_b272_2.take 3) h_b272_2)]
set_option maxRecDepth 1000000 in
theorem ck_b272_1 : e2_runM (e2_cal S_b272 I_b272 4000 2) (e2_fin rs_b272) e2x_282 (e2_bpL cl_b272_1) (e2_cutA cl_b272_1) 4000 (e2_seek e2x_282 37) al_b272_1 [] E_b272_1 h_b272_1 = true := by decide +kernel
set_option maxRecDepth 1000000 in
theorem ci_b272_1 : e2_idl 2 (al_b272_1.set 3 (9, 0, 0)) = true := by decide +kernel
set_option maxRecDepth 1000000 in
theorem cj_b272_1 : e2_idh 2 8 h_b272_1 = true := by decide +kernel
noncomputable def cl_b272_2 : List (Nat × e2_S) := [(37, e2_cutL (al_b272_1.set 3 (13, 10, 4294967295)) 2 (E_b272_1.take 2) h_b272_1),
  (69, e2_cutL (al_b272_2.set 4 (13, 11, 2147483664)) 3 (E_b272_2.take 3) h_b272_2)]
set_option maxRecDepth 1000000 in
theorem ck_b272_2 : e2_runM (e2_cal S_b272 I_b272 4000 2) (e2_fin rs_b272) e2x_282 (e2_bpL cl_b272_2) (e2_cutA cl_b272_2) 4000 (e2_seek e2x_282 69) al_b272_2 [] E_b272_2 h_b272_2 = true := by decide +kernel
set_option maxRecDepth 1000000 in
theorem ci_b272_2 : e2_idl 3 (al_b272_2.set 4 (9, 0, 0)) = true := by decide +kernel
set_option maxRecDepth 1000000 in
theorem cj_b272_2 : e2_idh 3 8 h_b272_2 = true := by decide +kernel
theorem cs_b272 (hen : en_ok) (l : Launch) : e2_smOk l 4 s_b272 := by
  refine e2_conG (H := 1) (n := 2) (C := evd_282) (S := S_b272) (I := I_b272) (fuel := 4000) hen ei_282 (e2_fa (cs_b271 hen l) e2_fz) (e2_fa ein_217 (e2_fa ein_275 e2_fz)) (by decide) co_b272 fun M d _ hC hcall p e R s m args below meth c Q D cA A ads r0 ha hl0 => ?_
  have L_1 : e2_gdM M p l e R s m args below meth c Q D cA A ads r0 37 al_b272_1 [] E_b272_1 h_b272_1 := by
    refine e2_indL (u := 2) (j := 3) (lo := 2147483648) (hi := 4294967295) (b := 2) (dd := 0) hl0 (by decide) rfl rfl (Or.inr ⟨rfl, rfl⟩) rfl ci_b272_1 cj_b272_1 ?_
    intro r_1 k_1 hk_1 hp_1 hs_1 hn_1
    have hl_1 : r_1.length ≤ 3 := hs_1.len rfl
    have ha_1 := ha.ext hp_1
    have L_2 : e2_gdM M p l e R s m args below meth c Q D cA A ads r_1 69 al_b272_2 [] E_b272_2 h_b272_2 := by
      refine e2_indL (u := 3) (j := 4) (lo := 2147483648) (hi := 2147483664) (b := 3) (dd := 0) hl_1 (by decide) rfl rfl (Or.inr ⟨rfl, rfl⟩) rfl ci_b272_2 cj_b272_2 ?_
      intro r_2 k_2 hk_2 hp_2 hs_2 hn_2
      have hl_2 : r_2.length ≤ 4 := hs_2.len rfl
      have ha_2 := ha_1.ext hp_2
      exact e2_fromM hen ha_2 hcall (e2_cutA_ok (e2_fa (fun al st E h hc => (hn_1 al st E h hc).ext hp_2) (e2_fa (fun al st E h hc => hn_2 al st E h hc) e2_fz))) (hC []) (X := e2x_282) ex2_282 69 ck_b272_2
    have EN_2 := e2_entL (u := 3) (j := 4) (lo := 2147483648) (hi := 2147483664) hl_1 rfl rfl rfl ci_b272_2 cj_b272_2 L_2
    exact e2_fromM hen ha_1 hcall (e2_cutA_ok (e2_fa (fun al st E h hc => hn_1 al st E h hc) (e2_fa (fun al st E h hc => EN_2 al st E h hc) e2_fz))) (hC []) (X := e2x_282) ex2_282 37 ck_b272_1
  have EN_1 := e2_entL (u := 2) (j := 3) (lo := 2147483648) (hi := 4294967295) hl0 rfl rfl rfl ci_b272_1 cj_b272_1 L_1
  have L_0 : e2_gdM M p l e R s m args below meth c Q D cA A ads r0 17 al_b272_0 [] E_b272_0 h_b272_0 := by
    refine e2_indL (u := 2) (j := 3) (lo := 2147483648) (hi := 2147483664) (b := 2) (dd := 0) hl0 (by decide) rfl rfl (Or.inr ⟨rfl, rfl⟩) rfl ci_b272_0 cj_b272_0 ?_
    intro r_0 k_0 hk_0 hp_0 hs_0 hn_0
    have hl_0 : r_0.length ≤ 3 := hs_0.len rfl
    have ha_0 := ha.ext hp_0
    exact e2_fromM hen ha_0 hcall (e2_cutA_ok (e2_fa (fun al st E h hc => hn_0 al st E h hc) (e2_fa (fun al st E h hc => (EN_1 al st E h hc).ext hp_0) e2_fz))) (hC []) (X := e2x_282) ex2_282 17 ck_b272_0
  have EN_0 := e2_entL (u := 2) (j := 3) (lo := 2147483648) (hi := 2147483664) hl0 rfl rfl rfl ci_b272_0 cj_b272_0 L_0
  exact e2_from hen ha hcall (e2_cutA_ok (e2_fa (fun al st E h hc => EN_0 al st E h hc) e2_fz)) (hC []) (X := e2x_282) ex2_282 0 ck_b272_e
/-! b273 X10_fit -/
def as_b273 : List ev_V := [(2, 83, 0), (11, 0, 4294967295)]
def E_b273 : e2_E := [(2147483648, 2147583648, 0, 0), (2147483648, 2147483656, 1, 0)]
noncomputable def f_b273 : ev_H := (bn2184 : e2_Q8)
noncomputable def q_b273_0 : ev_H := (bn2185 : e2_Q8)
noncomputable def rs_b273 : e2_Rs := [((11, 0, 4294967295), q_b273_0)]
noncomputable def s_b273 : e2_Sm := (283, as_b273, E_b273, f_b273, rs_b273)
noncomputable def S_b273 : List e2_Sm := [s_b272]
noncomputable def I_b273 : List e2_In := []
set_option maxRecDepth 1000000 in
theorem ck_b273 : e2_run (e2_cal S_b273 I_b273 4000 0) (e2_fin rs_b273) e2x_283 (fun _ => false) (fun _ _ _ _ _ => false) 4000 (e2_seek e2x_283 0) (e2_al 2 as_b273) [] E_b273 f_b273 = true := by decide +kernel
set_option maxRecDepth 1000000 in
theorem co_b273 : e2_okSB E_b273.length as_b273 f_b273 rs_b273 = true := by decide +kernel
theorem cs_b273 (hen : en_ok) (l : Launch) : e2_smOk l 5 s_b273 := e2_con0 (H := 4) (n := 0) (C := evd_283) (S := S_b273) (I := I_b273) (fuel := 4000) [] hen ei_283 (e2_fa (cs_b272 hen l) e2_fz) e2_fz (by decide) co_b273 ex2_283 ck_b273
/-! b274 X10_sure -/
def as_b274 : List ev_V := [(2, 83, 0), (11, 0, 4294967295), (11, 0, 4294967295), (11, 0, 4294967295)]
def E_b274 : e2_E := [(2147483648, 2147583648, 0, 0), (2147483648, 2147483656, 1, 0)]
noncomputable def f_b274 : ev_H := (bn2184 : e2_Q8)
noncomputable def q_b274_0 : ev_H := (bn2185 : e2_Q8)
noncomputable def rs_b274 : e2_Rs := [((11, 2147483646, 2147483649), q_b274_0)]
noncomputable def s_b274 : e2_Sm := (284, as_b274, E_b274, f_b274, rs_b274)
noncomputable def S_b274 : List e2_Sm := [s_b272]
noncomputable def I_b274 : List e2_In := [(212, 3, e2x_212), (217, 1, e2x_217), (275, 1, e2x_275), (276, 2, e2x_276)]
set_option maxRecDepth 1000000 in
theorem ck_b274 : e2_run (e2_cal S_b274 I_b274 4000 3) (e2_fin rs_b274) e2x_284 (fun _ => false) (fun _ _ _ _ _ => false) 4000 (e2_seek e2x_284 0) (e2_al 5 as_b274) [] E_b274 f_b274 = true := by decide +kernel
set_option maxRecDepth 1000000 in
theorem co_b274 : e2_okSB E_b274.length as_b274 f_b274 rs_b274 = true := by decide +kernel
theorem cs_b274 (hen : en_ok) (l : Launch) : e2_smOk l 8 s_b274 := e2_con0 (H := 4) (n := 3) (C := evd_284) (S := S_b274) (I := I_b274) (fuel := 4000) [] hen ei_284 (e2_fa (cs_b272 hen l) e2_fz) (e2_fa ein_212 (e2_fa ein_217 (e2_fa ein_275 (e2_fa ein_276 e2_fz)))) (by decide) co_b274 ex2_284 ck_b274
/-! b275 X10_ask -/
def as_b275 : List ev_V := [(2, 83, 0), (11, 0, 4294967295), (11, 0, 4294967295)]
def E_b275 : e2_E := [(2147483648, 2147583648, 0, 0), (2147483648, 2147483656, 1, 0)]
noncomputable def f_b275 : ev_H := (bn2184 : e2_Q8)
noncomputable def q_b275_0 : ev_H := (bn2185 : e2_Q8)
noncomputable def rs_b275 : e2_Rs := [((11, 0, 4294967295), q_b275_0)]
noncomputable def s_b275 : e2_Sm := (285, as_b275, E_b275, f_b275, rs_b275)
noncomputable def S_b275 : List e2_Sm := [s_b272]
noncomputable def I_b275 : List e2_In := [(212, 3, e2x_212), (217, 1, e2x_217), (275, 1, e2x_275)]
set_option maxRecDepth 1000000 in
theorem co_b275 : e2_okSB E_b275.length as_b275 f_b275 rs_b275 = true := by decide +kernel
def al_b275_0 : List ev_V := [(2, 83, 0), (11, 2147483648, 2147483649), (11, 0, 4294967295), (11, 2147483648, 2147483663), (11, 0, 4294967295), (1, 2, 4294967296), (9, 0, 0)]
def E_b275_0 : e2_E := [(2147483648, 2147583648, 0, 0), (2147483649, 2147483656, 1, 0), (2147483648, 2147483664, 2, 0)]
noncomputable def h_b275_0 : ev_H := (bn2185 : e2_Q8)
noncomputable def cl_b275_e : List (Nat × e2_S) := [(45, e2_cutL (al_b275_0.set 5 (11, 2147483648, 2147483664)) 2 (E_b275_0.take 2) h_b275_0)]
set_option maxRecDepth 1000000 in
theorem ck_b275_e : e2_run (e2_cal S_b275 I_b275 4000 2) (e2_fin rs_b275) e2x_285 (e2_bpL cl_b275_e) (e2_cutA cl_b275_e) 4000 (e2_seek e2x_285 0) (e2_al 7 as_b275) [] E_b275 f_b275 = true := by decide +kernel
noncomputable def cl_b275_0 : List (Nat × e2_S) := [(45, e2_cutL (al_b275_0.set 5 (13, 10, 2147483664)) 2 (E_b275_0.take 2) h_b275_0)]
set_option maxRecDepth 1000000 in
theorem ck_b275_0 : e2_runM (e2_cal S_b275 I_b275 4000 2) (e2_fin rs_b275) e2x_285 (e2_bpL cl_b275_0) (e2_cutA cl_b275_0) 4000 (e2_seek e2x_285 45) al_b275_0 [] E_b275_0 h_b275_0 = true := by decide +kernel
set_option maxRecDepth 1000000 in
theorem ci_b275_0 : e2_idl 2 (al_b275_0.set 5 (9, 0, 0)) = true := by decide +kernel
set_option maxRecDepth 1000000 in
theorem cj_b275_0 : e2_idh 2 8 h_b275_0 = true := by decide +kernel
theorem cs_b275 (hen : en_ok) (l : Launch) : e2_smOk l 7 s_b275 := by
  refine e2_conG (H := 4) (n := 2) (C := evd_285) (S := S_b275) (I := I_b275) (fuel := 4000) hen ei_285 (e2_fa (cs_b272 hen l) e2_fz) (e2_fa ein_212 (e2_fa ein_217 (e2_fa ein_275 e2_fz))) (by decide) co_b275 fun M d _ hC hcall p e R s m args below meth c Q D cA A ads r0 ha hl0 => ?_
  have L_0 : e2_gdM M p l e R s m args below meth c Q D cA A ads r0 45 al_b275_0 [] E_b275_0 h_b275_0 := by
    refine e2_indL (u := 2) (j := 5) (lo := 2147483648) (hi := 2147483664) (b := 2) (dd := 0) hl0 (by decide) rfl rfl (Or.inr ⟨rfl, rfl⟩) rfl ci_b275_0 cj_b275_0 ?_
    intro r_0 k_0 hk_0 hp_0 hs_0 hn_0
    have hl_0 : r_0.length ≤ 3 := hs_0.len rfl
    have ha_0 := ha.ext hp_0
    exact e2_fromM hen ha_0 hcall (e2_cutA_ok (e2_fa (fun al st E h hc => hn_0 al st E h hc) e2_fz)) (hC []) (X := e2x_285) ex2_285 45 ck_b275_0
  have EN_0 := e2_entL (u := 2) (j := 5) (lo := 2147483648) (hi := 2147483664) hl0 rfl rfl rfl ci_b275_0 cj_b275_0 L_0
  exact e2_from hen ha hcall (e2_cutA_ok (e2_fa (fun al st E h hc => EN_0 al st E h hc) e2_fz)) (hC []) (X := e2x_285) ex2_285 0 ck_b275_e
/-! b276 X10_image -/
def as_b276 : List ev_V := [(2, 83, 0), (11, 0, 4294967295)]
def E_b276 : e2_E := [(2147483648, 2147583648, 0, 0), (2147483648, 2147483656, 1, 0)]
def bc242 : ev_C := (50, [(11, 0, 4294967295), (11, 0, 4294967295), (11, 0, 4294967295), (11, 0, 4294967295), (11, 0, 4294967295), (11, 0, 4294967295), (11, 0, 4294967295), (11, 0, 4294967295), (11, 0, 4294967295), (11, 0, 4294967295), (11, 0, 4294967295), (11, 0, 4294967295), (11, 0, 4294967295), (11, 0, 4294967295), (11, 0, 4294967295), (11, 0, 4294967295), (11, 0, 4294967295), (11, 0, 4294967295), (11, 0, 4294967295), (11, 0, 4294967295), (11, 0, 4294967295), (11, 0, 4294967295), (11, 0, 4294967295), (11, 0, 4294967295), (11, 0, 4294967295), (11, 2147483648, 2147484647), (11, 0, 4294967295), (11, 0, 4294967295), (11, 0, 4294967295), (11, 0, 4294967295), (11, 0, 4294967295), (11, 0, 4294967295), (11, 0, 4294967295), (11, 0, 4294967295), (11, 0, 4294967295), (11, 0, 4294967295), (11, 0, 4294967295), (11, 0, 4294967295), (11, 0, 4294967295), (11, 0, 4294967295), (11, 0, 4294967295), (11, 0, 4294967295), (11, 0, 4294967295), (11, 0, 4294967295), (11, 0, 4294967295), (11, 0, 4294967295), (11, 0, 4294967295), (11, 0, 4294967295), (11, 0, 4294967295), (11, 0, 4294967295), (11, 0, 4294967295), (11, 2147483648, 2147484647), (11, 0, 4294967295), (11, 0, 4294967295), (11, 0, 4294967295), (11, 0, 4294967295), (11, 0, 4294967295), (11, 0, 4294967295), (11, 0, 4294967295), (11, 0, 4294967295), (11, 0, 4294967295), (11, 0, 4294967295), (11, 0, 4294967295), (11, 0, 4294967295), (11, 0, 4294967295), (11, 0, 4294967295), (11, 0, 4294967295), (11, 0, 4294967295), (11, 0, 4294967295), (11, 0, 4294967295), (11, 0, 4294967295), (11, 0, 4294967295), (11, 0, 4294967295), (11, 0, 4294967295), (11, 0, 4294967295), (11, 0, 4294967295), (11, 0, 4294967295), (11, 2147483648, 2147484647)])
def bn2186 : e2_Q1 := (bc100, bc242)
def bn2187 : e2_Q2 := (bn2186, bn190)
def bn2188 : e2_Q3 := (bn2187, bn194)
def bn2189 : e2_Q4 := (bn2188, bn323)
def bn2190 : e2_Q5 := (bn2189, bn289)
def bn2191 : e2_Q6 := (bn2190, bn250)
def bn2192 : e2_Q7 := (bn339, bn2191)
def bn2193 : e2_Q8 := (bn427, bn2192)
noncomputable def f_b276 : ev_H := (bn2193 : e2_Q8)
noncomputable def q_b276_0 : ev_H := (bn2193 : e2_Q8)
noncomputable def rs_b276 : e2_Rs := [((11, 0, 4294967295), q_b276_0)]
noncomputable def s_b276 : e2_Sm := (286, as_b276, E_b276, f_b276, rs_b276)
noncomputable def S_b276 : List e2_Sm := []
noncomputable def I_b276 : List e2_In := [(212, 3, e2x_212)]
set_option maxRecDepth 1000000 in
theorem co_b276 : e2_okSB E_b276.length as_b276 f_b276 rs_b276 = true := by decide +kernel
def al_b276_0 : List ev_V := [(2, 83, 0), (11, 2147483648, 2147483650), (1, 2, 4294967296)]
def E_b276_0 : e2_E := [(2147483648, 2147583648, 0, 0), (2147483648, 2147483656, 1, 0), (2147483648, 2147483674, 2, 0)]
noncomputable def h_b276_0 : ev_H := (bn2193 : e2_Q8)
noncomputable def cl_b276_e : List (Nat × e2_S) := [(13, e2_cutL (al_b276_0.set 2 (11, 2147483648, 2147483674)) 2 (E_b276_0.take 2) h_b276_0)]
set_option maxRecDepth 1000000 in
theorem ck_b276_e : e2_run (e2_cal S_b276 I_b276 4000 1) (e2_fin rs_b276) e2x_286 (e2_bpL cl_b276_e) (e2_cutA cl_b276_e) 4000 (e2_seek e2x_286 0) (e2_al 3 as_b276) [] E_b276 f_b276 = true := by decide +kernel
noncomputable def cl_b276_0 : List (Nat × e2_S) := [(13, e2_cutL (al_b276_0.set 2 (13, 10, 2147483674)) 2 (E_b276_0.take 2) h_b276_0)]
set_option maxRecDepth 1000000 in
theorem ck_b276_0 : e2_runM (e2_cal S_b276 I_b276 4000 1) (e2_fin rs_b276) e2x_286 (e2_bpL cl_b276_0) (e2_cutA cl_b276_0) 4000 (e2_seek e2x_286 13) al_b276_0 [] E_b276_0 h_b276_0 = true := by decide +kernel
set_option maxRecDepth 1000000 in
theorem ci_b276_0 : e2_idl 2 (al_b276_0.set 2 (9, 0, 0)) = true := by decide +kernel
set_option maxRecDepth 1000000 in
theorem cj_b276_0 : e2_idh 2 8 h_b276_0 = true := by decide +kernel
theorem cs_b276 (hen : en_ok) (l : Launch) : e2_smOk l 2 s_b276 := by
  refine e2_conG (H := 0) (n := 1) (C := evd_286) (S := S_b276) (I := I_b276) (fuel := 4000) hen ei_286 e2_fz (e2_fa ein_212 e2_fz) (by decide) co_b276 fun M d _ hC hcall p e R s m args below meth c Q D cA A ads r0 ha hl0 => ?_
  have L_0 : e2_gdM M p l e R s m args below meth c Q D cA A ads r0 13 al_b276_0 [] E_b276_0 h_b276_0 := by
    refine e2_indL (u := 2) (j := 2) (lo := 2147483648) (hi := 2147483674) (b := 2) (dd := 0) hl0 (by decide) rfl rfl (Or.inr ⟨rfl, rfl⟩) rfl ci_b276_0 cj_b276_0 ?_
    intro r_0 k_0 hk_0 hp_0 hs_0 hn_0
    have hl_0 : r_0.length ≤ 3 := hs_0.len rfl
    have ha_0 := ha.ext hp_0
    exact e2_fromM hen ha_0 hcall (e2_cutA_ok (e2_fa (fun al st E h hc => hn_0 al st E h hc) e2_fz)) (hC [25, 27]) (X := e2x_286) ex2_286 13 ck_b276_0
  have EN_0 := e2_entL (u := 2) (j := 2) (lo := 2147483648) (hi := 2147483674) hl0 rfl rfl rfl ci_b276_0 cj_b276_0 L_0
  exact e2_from hen ha hcall (e2_cutA_ok (e2_fa (fun al st E h hc => EN_0 al st E h hc) e2_fz)) (hC [25, 27]) (X := e2x_286) ex2_286 0 ck_b276_e
/-! b277 X10_back -/
def as_b277 : List ev_V := [(2, 83, 0), (11, 0, 4294967295)]
def E_b277 : e2_E := [(2147483648, 2147583648, 0, 0), (2147483648, 2147483656, 1, 0)]
noncomputable def f_b277 : ev_H := (bn2193 : e2_Q8)
noncomputable def q_b277_0 : ev_H := (bn2193 : e2_Q8)
noncomputable def rs_b277 : e2_Rs := [((11, 0, 4294967295), q_b277_0)]
noncomputable def s_b277 : e2_Sm := (287, as_b277, E_b277, f_b277, rs_b277)
noncomputable def S_b277 : List e2_Sm := []
noncomputable def I_b277 : List e2_In := [(212, 3, e2x_212)]
set_option maxRecDepth 1000000 in
theorem co_b277 : e2_okSB E_b277.length as_b277 f_b277 rs_b277 = true := by decide +kernel
def al_b277_0 : List ev_V := [(2, 83, 0), (11, 2147483648, 2147483650), (1, 2, 4294967296)]
def E_b277_0 : e2_E := [(2147483648, 2147583648, 0, 0), (2147483648, 2147483656, 1, 0), (2147483648, 2147483674, 2, 0)]
noncomputable def h_b277_0 : ev_H := (bn2193 : e2_Q8)
noncomputable def cl_b277_e : List (Nat × e2_S) := [(22, e2_cutL (al_b277_0.set 2 (11, 2147483648, 2147483674)) 2 (E_b277_0.take 2) h_b277_0)]
set_option maxRecDepth 1000000 in
theorem ck_b277_e : e2_run (e2_cal S_b277 I_b277 4000 1) (e2_fin rs_b277) e2x_287 (e2_bpL cl_b277_e) (e2_cutA cl_b277_e) 4000 (e2_seek e2x_287 0) (e2_al 3 as_b277) [] E_b277 f_b277 = true := by decide +kernel
noncomputable def cl_b277_0 : List (Nat × e2_S) := [(22, e2_cutL (al_b277_0.set 2 (13, 10, 2147483674)) 2 (E_b277_0.take 2) h_b277_0)]
set_option maxRecDepth 1000000 in
theorem ck_b277_0 : e2_runM (e2_cal S_b277 I_b277 4000 1) (e2_fin rs_b277) e2x_287 (e2_bpL cl_b277_0) (e2_cutA cl_b277_0) 4000 (e2_seek e2x_287 22) al_b277_0 [] E_b277_0 h_b277_0 = true := by decide +kernel
set_option maxRecDepth 1000000 in
theorem ci_b277_0 : e2_idl 2 (al_b277_0.set 2 (9, 0, 0)) = true := by decide +kernel
set_option maxRecDepth 1000000 in
theorem cj_b277_0 : e2_idh 2 8 h_b277_0 = true := by decide +kernel
theorem cs_b277 (hen : en_ok) (l : Launch) : e2_smOk l 2 s_b277 := by
  refine e2_conG (H := 0) (n := 1) (C := evd_287) (S := S_b277) (I := I_b277) (fuel := 4000) hen ei_287 e2_fz (e2_fa ein_212 e2_fz) (by decide) co_b277 fun M d _ hC hcall p e R s m args below meth c Q D cA A ads r0 ha hl0 => ?_
  have L_0 : e2_gdM M p l e R s m args below meth c Q D cA A ads r0 22 al_b277_0 [] E_b277_0 h_b277_0 := by
    refine e2_indL (u := 2) (j := 2) (lo := 2147483648) (hi := 2147483674) (b := 2) (dd := 0) hl0 (by decide) rfl rfl (Or.inr ⟨rfl, rfl⟩) rfl ci_b277_0 cj_b277_0 ?_
    intro r_0 k_0 hk_0 hp_0 hs_0 hn_0
    have hl_0 : r_0.length ≤ 3 := hs_0.len rfl
    have ha_0 := ha.ext hp_0
    exact e2_fromM hen ha_0 hcall (e2_cutA_ok (e2_fa (fun al st E h hc => hn_0 al st E h hc) e2_fz)) (hC [32, 39]) (X := e2x_287) ex2_287 22 ck_b277_0
  have EN_0 := e2_entL (u := 2) (j := 2) (lo := 2147483648) (hi := 2147483674) hl0 rfl rfl rfl ci_b277_0 cj_b277_0 L_0
  exact e2_from hen ha hcall (e2_cutA_ok (e2_fa (fun al st E h hc => EN_0 al st E h hc) e2_fz)) (hC [32, 39]) (X := e2x_287) ex2_287 0 ck_b277_e
/-! b278 X10_about -/
def as_b278 : List ev_V := [(2, 83, 0), (11, 0, 4294967295)]
def E_b278 : e2_E := [(2147483648, 2147583648, 0, 0), (2147483648, 2147483656, 1, 0)]
def bn2194 : e2_Q5 := (bn297, bn1341)
def bn2195 : e2_Q5 := (bn302, bn359)
def bn2196 : e2_Q6 := (bn2194, bn2195)
def bn2197 : e2_Q7 := (bn2196, bn1317)
def bn2198 : e2_Q6 := (bn380, bn338)
def bn2199 : e2_Q6 := (bn1323, bn868)
def bn2200 : e2_Q7 := (bn2198, bn2199)
def bn2201 : e2_Q8 := (bn2197, bn2200)
noncomputable def f_b278 : ev_H := (bn2201 : e2_Q8)
noncomputable def q_b278_0 : ev_H := (bn2201 : e2_Q8)
noncomputable def rs_b278 : e2_Rs := [((11, 0, 4294967295), q_b278_0)]
noncomputable def s_b278 : e2_Sm := (288, as_b278, E_b278, f_b278, rs_b278)
noncomputable def S_b278 : List e2_Sm := [s_b214]
noncomputable def I_b278 : List e2_In := [(216, 1, e2x_216), (217, 1, e2x_217)]
set_option maxRecDepth 1000000 in
theorem ck_b278 : e2_run (e2_cal S_b278 I_b278 4000 1) (e2_fin rs_b278) e2x_288 (fun _ => false) (fun _ _ _ _ _ => false) 4000 (e2_seek e2x_288 0) (e2_al 2 as_b278) [] E_b278 f_b278 = true := by decide +kernel
set_option maxRecDepth 1000000 in
theorem co_b278 : e2_okSB E_b278.length as_b278 f_b278 rs_b278 = true := by decide +kernel
theorem cs_b278 (hen : en_ok) (l : Launch) : e2_smOk l 4 s_b278 := e2_con0 (H := 2) (n := 1) (C := evd_288) (S := S_b278) (I := I_b278) (fuel := 4000) [] hen ei_288 (e2_fa (cs_b214 hen l) e2_fz) (e2_fa ein_216 (e2_fa ein_217 e2_fz)) (by decide) co_b278 ex2_288 ck_b278
/-! b279 X10_feed -/
def as_b279 : List ev_V := [(2, 83, 0), (11, 0, 4294967295), (11, 0, 4294967295), (11, 0, 4294967295), (11, 0, 4294967295), (11, 0, 4294967295)]
def E_b279 : e2_E := [(2147483648, 2147583648, 0, 0), (2147483648, 2147483656, 1, 0)]
def bn2202 : e2_Q6 := (bn30, bn266)
def bn2203 : e2_Q7 := (bn2202, bn273)
def bn2204 : e2_Q8 := (bn2203, bn1321)
noncomputable def f_b279 : ev_H := (bn2204 : e2_Q8)
def bc243 : ev_C := (10, [(0, 0, 0), (2, 88, 0), (2, 115, 0), (2, 114, 0), (2, 86, 0), (2, 112, 0), (11, 2147483648, 2147483688), (2, 118, 0), (2, 120, 0), (2, 131, 0), (2, 91, 0), (11, 2147483648, 2147483668), (2, 123, 0), (11, 2147483648, 2147483649), (11, 2147483668, 2147485248), (2, 87, 0), (2, 84, 0), (2, 122, 0), (2, 100, 0), (2, 132, 0), (11, 2147483648, 2147483668), (11, 2147483648, 2147485248), (1, 0, 4294967296), (11, 2147483648, 2147483653), (11, 2147483648, 2147485248), (2, 93, 0), (2, 104, 0), (11, 2147483648, 2147483678), (2, 89, 0), (2, 92, 0), (2, 119, 0), (2, 90, 0), (2, 94, 0), (2, 103, 0), (11, 2147483648, 2147483688), (11, 2147483648, 2147549184), (11, 0, 4294967295), (11, 2147483648, 2147485249), (11, 2147483648, 2147483653), (11, 2147483648, 2147483668), (2, 85, 0), (11, 0, 4294967295), (5, 0, 0), (2, 95, 0), (2, 96, 0), (2, 97, 0), (2, 98, 0), (2, 99, 0), (2, 101, 0), (2, 102, 0), (2, 105, 0), (2, 106, 0), (2, 107, 0), (2, 108, 0), (2, 109, 0), (2, 110, 0), (2, 111, 0), (11, 2147483648, 2147484768), (11, 2147482048, 2147483655), (11, 2147483648, 2147483738), (11, 2147483648, 2147483678), (11, 0, 4294967295), (11, 0, 4294967295), (11, 0, 4294967295), (11, 0, 4294967295), (11, 0, 4294967295), (2, 113, 0), (2, 116, 0), (2, 117, 0), (2, 121, 0), (11, 0, 4294967295), (11, 0, 4294967295), (2, 124, 0), (2, 125, 0), (11, 0, 4294967295), (2, 126, 0), (2, 127, 0), (2, 128, 0), (2, 129, 0), (2, 130, 0)])
def bn2205 : e2_Q1 := (bc243, bc3)
def bn2206 : e2_Q2 := (bn196, bn2205)
def bn2207 : e2_Q3 := (bn2206, bn201)
def bn2208 : e2_Q4 := (bn195, bn2207)
def bn2209 : e2_Q5 := (bn2208, bn289)
def bn2210 : e2_Q6 := (bn2209, bn250)
def bn2211 : e2_Q7 := (bn339, bn2210)
def bn2212 : e2_Q8 := (bn2203, bn2211)
noncomputable def q_b279_0 : ev_H := (bn2212 : e2_Q8)
noncomputable def rs_b279 : e2_Rs := [((11, 2147483647, 2147485248), q_b279_0)]
noncomputable def s_b279 : e2_Sm := (289, as_b279, E_b279, f_b279, rs_b279)
noncomputable def S_b279 : List e2_Sm := []
noncomputable def I_b279 : List e2_In := []
set_option maxRecDepth 1000000 in
theorem co_b279 : e2_okSB E_b279.length as_b279 f_b279 rs_b279 = true := by decide +kernel
def al_b279_0 : List ev_V := [(2, 83, 0), (11, 0, 4294967295), (11, 0, 4294967295), (11, 0, 4294967295), (11, 0, 4294967295), (11, 0, 4294967295), (1, 2, 4294967296), (9, 0, 0)]
def E_b279_0 : e2_E := [(2147483648, 2147583648, 0, 0), (2147483648, 2147483656, 1, 0), (2147483648, 2147483668, 2, 0)]
def bc244 : ev_C := (10, [(0, 0, 0), (2, 88, 0), (2, 115, 0), (2, 114, 0), (2, 86, 0), (2, 112, 0), (11, 2147483648, 2147483688), (2, 118, 0), (2, 120, 0), (2, 131, 0), (2, 91, 0), (11, 2147483648, 2147483668), (2, 123, 0), (11, 2147483648, 2147483649), (11, 2147483648, 2147485228), (2, 87, 0), (2, 84, 0), (2, 122, 0), (2, 100, 0), (2, 132, 0), (11, 2147483648, 2147483668), (11, 2147483648, 2147485248), (1, 0, 4294967296), (11, 2147483648, 2147483653), (11, 2147483648, 2147485248), (2, 93, 0), (2, 104, 0), (11, 2147483648, 2147483678), (2, 89, 0), (2, 92, 0), (2, 119, 0), (2, 90, 0), (2, 94, 0), (2, 103, 0), (11, 2147483648, 2147483688), (11, 2147483648, 2147549184), (11, 0, 4294967295), (11, 2147483648, 2147485249), (11, 2147483648, 2147483653), (11, 2147483648, 2147483668), (2, 85, 0), (11, 0, 4294967295), (5, 0, 0), (2, 95, 0), (2, 96, 0), (2, 97, 0), (2, 98, 0), (2, 99, 0), (2, 101, 0), (2, 102, 0), (2, 105, 0), (2, 106, 0), (2, 107, 0), (2, 108, 0), (2, 109, 0), (2, 110, 0), (2, 111, 0), (11, 2147483648, 2147484768), (11, 2147482048, 2147483655), (11, 2147483648, 2147483738), (11, 2147483648, 2147483678), (11, 0, 4294967295), (11, 0, 4294967295), (11, 0, 4294967295), (11, 0, 4294967295), (11, 0, 4294967295), (2, 113, 0), (2, 116, 0), (2, 117, 0), (2, 121, 0), (11, 0, 4294967295), (11, 0, 4294967295), (2, 124, 0), (2, 125, 0), (11, 0, 4294967295), (2, 126, 0), (2, 127, 0), (2, 128, 0), (2, 129, 0), (2, 130, 0)])
def bn2213 : e2_Q1 := (bc244, bc3)
def bn2214 : e2_Q2 := (bn196, bn2213)
def bn2215 : e2_Q3 := (bn2214, bn201)
def bn2216 : e2_Q4 := (bn195, bn2215)
def bn2217 : e2_Q5 := (bn2216, bn289)
def bn2218 : e2_Q6 := (bn2217, bn250)
def bn2219 : e2_Q7 := (bn339, bn2218)
def bn2220 : e2_Q8 := (bn2203, bn2219)
noncomputable def h_b279_0 : ev_H := (bn2220 : e2_Q8)
noncomputable def cl_b279_e : List (Nat × e2_S) := [(18, e2_cutL (al_b279_0.set 6 (11, 2147483648, 2147483668)) 2 (E_b279_0.take 2) h_b279_0)]
set_option maxRecDepth 1000000 in
theorem ck_b279_e : e2_run (e2_cal S_b279 I_b279 4000 0) (e2_fin rs_b279) e2x_289 (e2_bpL cl_b279_e) (e2_cutA cl_b279_e) 4000 (e2_seek e2x_289 0) (e2_al 8 as_b279) [] E_b279 f_b279 = true := by decide +kernel
noncomputable def cl_b279_0 : List (Nat × e2_S) := [(18, e2_cutL (al_b279_0.set 6 (13, 10, 2147483668)) 2 (E_b279_0.take 2) h_b279_0)]
set_option maxRecDepth 1000000 in
theorem ck_b279_0 : e2_runM (e2_cal S_b279 I_b279 4000 0) (e2_fin rs_b279) e2x_289 (e2_bpL cl_b279_0) (e2_cutA cl_b279_0) 4000 (e2_seek e2x_289 18) al_b279_0 [] E_b279_0 h_b279_0 = true := by decide +kernel
set_option maxRecDepth 1000000 in
theorem ci_b279_0 : e2_idl 2 (al_b279_0.set 6 (9, 0, 0)) = true := by decide +kernel
set_option maxRecDepth 1000000 in
theorem cj_b279_0 : e2_idh 2 8 h_b279_0 = true := by decide +kernel
theorem cs_b279 (hen : en_ok) (l : Launch) : e2_smOk l 1 s_b279 := by
  refine e2_conG (H := 0) (n := 0) (C := evd_289) (S := S_b279) (I := I_b279) (fuel := 4000) hen ei_289 e2_fz e2_fz (by decide) co_b279 fun M d _ hC hcall p e R s m args below meth c Q D cA A ads r0 ha hl0 => ?_
  have L_0 : e2_gdM M p l e R s m args below meth c Q D cA A ads r0 18 al_b279_0 [] E_b279_0 h_b279_0 := by
    refine e2_indL (u := 2) (j := 6) (lo := 2147483648) (hi := 2147483668) (b := 2) (dd := 0) hl0 (by decide) rfl rfl (Or.inr ⟨rfl, rfl⟩) rfl ci_b279_0 cj_b279_0 ?_
    intro r_0 k_0 hk_0 hp_0 hs_0 hn_0
    have hl_0 : r_0.length ≤ 3 := hs_0.len rfl
    have ha_0 := ha.ext hp_0
    exact e2_fromM hen ha_0 hcall (e2_cutA_ok (e2_fa (fun al st E h hc => hn_0 al st E h hc) e2_fz)) (hC []) (X := e2x_289) ex2_289 18 ck_b279_0
  have EN_0 := e2_entL (u := 2) (j := 6) (lo := 2147483648) (hi := 2147483668) hl0 rfl rfl rfl ci_b279_0 cj_b279_0 L_0
  exact e2_from hen ha hcall (e2_cutA_ok (e2_fa (fun al st E h hc => EN_0 al st E h hc) e2_fz)) (hC []) (X := e2x_289) ex2_289 0 ck_b279_e
