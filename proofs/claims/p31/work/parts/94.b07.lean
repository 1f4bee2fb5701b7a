/-! CONTRACTS b, printed by a program -/
/-! b153 X10_goYear -/
def as_b153 : List ev_V := [(2, 83, 0)]
def E_b153 : e2_E := [(2147483648, 2147583648, 0, 0), (2147483648, 2147483656, 1, 0), (2147483648, 2147483688, 2, 0), (2147483648, 2147483688, 3, 0)]
noncomputable def f_b153 : ev_H := (bn1582 : e2_Q8)
noncomputable def q_b153_0 : ev_H := (bn1582 : e2_Q8)
noncomputable def rs_b153 : e2_Rs := [((11, 2147483647, 2147483668), q_b153_0)]
noncomputable def s_b153 : e2_Sm := (245, as_b153, E_b153, f_b153, rs_b153)
noncomputable def S_b153 : List e2_Sm := [s_b124]
noncomputable def I_b153 : List e2_In := [(213, 2, e2x_213), (216, 1, e2x_216)]
set_option maxRecDepth 1000000 in
theorem co_b153 : e2_okSB E_b153.length as_b153 f_b153 rs_b153 = true := by decide +kernel
def al_b153_0 : List ev_V := [(2, 83, 0), (11, 2147483647, 2147483668), (1, 4, 4294967296), (9, 0, 0)]
def E_b153_0 : e2_E := [(2147483648, 2147583648, 0, 0), (2147483648, 2147483656, 1, 0), (2147483648, 2147483688, 2, 0), (2147483648, 2147483688, 3, 0), (2147483648, 2147483668, 4, 0)]
noncomputable def h_b153_0 : ev_H := (bn1582 : e2_Q8)
def al_b153_1 : List ev_V := [(2, 83, 0), (11, 2147483647, 2147483668), (1, 4, 4294967296), (9, 0, 0)]
def E_b153_1 : e2_E := [(2147483648, 2147583648, 0, 0), (2147483648, 2147483656, 1, 0), (2147483648, 2147483688, 2, 0), (2147483648, 2147483688, 3, 0), (2147483648, 2147483668, 4, 0)]
noncomputable def h_b153_1 : ev_H := (bn1582 : e2_Q8)
noncomputable def cl_b153_e : List (Nat × e2_S) := [(7, e2_cutL (al_b153_1.set 2 (11, 2147483648, 2147483668)) 4 (E_b153_1.take 4) h_b153_1)]
set_option maxRecDepth 1000000 in
theorem ck_b153_e : e2_run (e2_cal S_b153 I_b153 4000 1) (e2_fin rs_b153) e2x_245 (e2_bpL cl_b153_e) (e2_cutA cl_b153_e) 4000 (e2_seek e2x_245 0) (e2_al 4 as_b153) [] E_b153 f_b153 = true := by decide +kernel
noncomputable def cl_b153_0 : List (Nat × e2_S) := [(174, e2_cutL (al_b153_0.set 2 (13, 12, 2147483668)) 4 (E_b153_0.take 4) h_b153_0)]
set_option maxRecDepth 1000000 in
theorem ck_b153_0 : e2_runM (e2_cal S_b153 I_b153 4000 1) (e2_fin rs_b153) e2x_245 (e2_bpL cl_b153_0) (e2_cutA cl_b153_0) 4000 (e2_seek e2x_245 174) al_b153_0 [] E_b153_0 h_b153_0 = true := by decide +kernel
set_option maxRecDepth 1000000 in
theorem ci_b153_0 : e2_idl 4 (al_b153_0.set 2 (9, 0, 0)) = true := by decide +kernel
set_option maxRecDepth 1000000 in
theorem cj_b153_0 : e2_idh 4 8 h_b153_0 = true := by decide +kernel
noncomputable def cl_b153_1 : List (Nat × e2_S) := [(174, e2_cutL (al_b153_0.set 2 (11, 2147483648, 2147483668)) 4 (E_b153_0.take 4) h_b153_0),
  (7, e2_cutL (al_b153_1.set 2 (13, 12, 2147483668)) 4 (E_b153_1.take 4) h_b153_1)]
set_option maxRecDepth 1000000 in
theorem ck_b153_1 : e2_runM (e2_cal S_b153 I_b153 4000 1) (e2_fin rs_b153) e2x_245 (e2_bpL cl_b153_1) (e2_cutA cl_b153_1) 4000 (e2_seek e2x_245 7) al_b153_1 [] E_b153_1 h_b153_1 = true := by decide +kernel
set_option maxRecDepth 1000000 in
theorem ci_b153_1 : e2_idl 4 (al_b153_1.set 2 (9, 0, 0)) = true := by decide +kernel
set_option maxRecDepth 1000000 in
theorem cj_b153_1 : e2_idh 4 8 h_b153_1 = true := by decide +kernel
theorem cs_b153 (hen : en_ok) (l : Launch) : e2_smOk l 8 s_b153 := by
  refine e2_conG (H := 6) (n := 1) (C := evd_245) (S := S_b153) (I := I_b153) (fuel := 4000) hen ei_245 (e2_fa (cs_b124 hen l) e2_fz) (e2_fa ein_213 (e2_fa ein_216 e2_fz)) (by decide) co_b153 fun M d _ hC hcall p e R s m args below meth c Q D cA A ads r0 ha hl0 => ?_
  have L_0 : e2_gdM M p l e R s m args below meth c Q D cA A ads r0 174 al_b153_0 [] E_b153_0 h_b153_0 := by
    refine e2_indL (u := 4) (j := 2) (lo := 2147483648) (hi := 2147483668) (b := 4) (dd := 0) hl0 (by decide) rfl rfl (Or.inr ⟨rfl, rfl⟩) rfl ci_b153_0 cj_b153_0 ?_
    intro r_0 k_0 hk_0 hp_0 hs_0 hn_0
    have hl_0 : r_0.length ≤ 5 := hs_0.len rfl
    have ha_0 := ha.ext hp_0
    exact e2_fromM hen ha_0 hcall (e2_cutA_ok (e2_fa (fun al st E h hc => hn_0 al st E h hc) e2_fz)) (hC []) (X := e2x_245) ex2_245 174 ck_b153_0
  have EN_0 := e2_entL (u := 4) (j := 2) (lo := 2147483648) (hi := 2147483668) hl0 rfl rfl rfl ci_b153_0 cj_b153_0 L_0
  have L_1 : e2_gdM M p l e R s m args below meth c Q D cA A ads r0 7 al_b153_1 [] E_b153_1 h_b153_1 := by
    refine e2_indL (u := 4) (j := 2) (lo := 2147483648) (hi := 2147483668) (b := 4) (dd := 0) hl0 (by decide) rfl rfl (Or.inr ⟨rfl, rfl⟩) rfl ci_b153_1 cj_b153_1 ?_
    intro r_1 k_1 hk_1 hp_1 hs_1 hn_1
    have hl_1 : r_1.length ≤ 5 := hs_1.len rfl
    have ha_1 := ha.ext hp_1
    exact e2_fromM hen ha_1 hcall (e2_cutA_ok (e2_fa (fun al st E h hc => (EN_0 al st E h hc).ext hp_1) (e2_fa (fun al st E h hc => hn_1 al st E h hc) e2_fz))) (hC []) (X := e2x_245) ex2_245 7 ck_b153_1
  have EN_1 := e2_entL (u := 4) (j := 2) (lo := 2147483648) (hi := 2147483668) hl0 rfl rfl rfl ci_b153_1 cj_b153_1 L_1
  exact e2_from hen ha hcall (e2_cutA_ok (e2_fa (fun al st E h hc => EN_1 al st E h hc) e2_fz)) (hC []) (X := e2x_245) ex2_245 0 ck_b153_e
/-! b154 X10_goYear -/
def as_b154 : List ev_V := [(2, 83, 0)]
def E_b154 : e2_E := [(2147483648, 2147583648, 0, 0), (2147483648, 2147483656, 1, 0), (2147483648, 2147483688, 2, 0), (2147483648, 2147483688, 3, 0)]
def bn1604 : e2_Q5 := (bn1599, bn1538)
def bn1605 : e2_Q6 := (bn1604, bn312)
def bn1606 : e2_Q7 := (bn1537, bn1605)
def bn1607 : e2_Q8 := (bn1534, bn1606)
noncomputable def f_b154 : ev_H := (bn1607 : e2_Q8)
noncomputable def q_b154_0 : ev_H := (bn1607 : e2_Q8)
noncomputable def rs_b154 : e2_Rs := [((11, 2147483647, 2147483668), q_b154_0)]
noncomputable def s_b154 : e2_Sm := (245, as_b154, E_b154, f_b154, rs_b154)
noncomputable def S_b154 : List e2_Sm := [s_b127]
noncomputable def I_b154 : List e2_In := [(213, 2, e2x_213), (216, 1, e2x_216)]
set_option maxRecDepth 1000000 in
theorem co_b154 : e2_okSB E_b154.length as_b154 f_b154 rs_b154 = true := by decide +kernel
def al_b154_0 : List ev_V := [(2, 83, 0), (11, 2147483647, 2147483668), (1, 4, 4294967296), (9, 0, 0)]
def E_b154_0 : e2_E := [(2147483648, 2147583648, 0, 0), (2147483648, 2147483656, 1, 0), (2147483648, 2147483688, 2, 0), (2147483648, 2147483688, 3, 0), (2147483648, 2147483668, 4, 0)]
noncomputable def h_b154_0 : ev_H := (bn1607 : e2_Q8)
def al_b154_1 : List ev_V := [(2, 83, 0), (11, 2147483647, 2147483668), (1, 4, 4294967296), (9, 0, 0)]
def E_b154_1 : e2_E := [(2147483648, 2147583648, 0, 0), (2147483648, 2147483656, 1, 0), (2147483648, 2147483688, 2, 0), (2147483648, 2147483688, 3, 0), (2147483648, 2147483668, 4, 0)]
noncomputable def h_b154_1 : ev_H := (bn1607 : e2_Q8)
noncomputable def cl_b154_e : List (Nat × e2_S) := [(7, e2_cutL (al_b154_1.set 2 (11, 2147483648, 2147483668)) 4 (E_b154_1.take 4) h_b154_1)]
set_option maxRecDepth 1000000 in
theorem ck_b154_e : e2_run (e2_cal S_b154 I_b154 4000 1) (e2_fin rs_b154) e2x_245 (e2_bpL cl_b154_e) (e2_cutA cl_b154_e) 4000 (e2_seek e2x_245 0) (e2_al 4 as_b154) [] E_b154 f_b154 = true := by decide +kernel
noncomputable def cl_b154_0 : List (Nat × e2_S) := [(174, e2_cutL (al_b154_0.set 2 (13, 12, 2147483668)) 4 (E_b154_0.take 4) h_b154_0)]
set_option maxRecDepth 1000000 in
theorem ck_b154_0 : e2_runM (e2_cal S_b154 I_b154 4000 1) (e2_fin rs_b154) e2x_245 (e2_bpL cl_b154_0) (e2_cutA cl_b154_0) 4000 (e2_seek e2x_245 174) al_b154_0 [] E_b154_0 h_b154_0 = true := by decide +kernel
set_option maxRecDepth 1000000 in
theorem ci_b154_0 : e2_idl 4 (al_b154_0.set 2 (9, 0, 0)) = true := by decide +kernel
set_option maxRecDepth 1000000 in
theorem cj_b154_0 : e2_idh 4 8 h_b154_0 = true := by decide +kernel
noncomputable def cl_b154_1 : List (Nat × e2_S) := [(174, e2_cutL (al_b154_0.set 2 (11, 2147483648, 2147483668)) 4 (E_b154_0.take 4) h_b154_0),
  (7, e2_cutL (al_b154_1.set 2 (13, 12, 2147483668)) 4 (E_b154_1.take 4) h_b154_1)]
set_option maxRecDepth 1000000 in
theorem ck_b154_1 : e2_runM (e2_cal S_b154 I_b154 4000 1) (e2_fin rs_b154) e2x_245 (e2_bpL cl_b154_1) (e2_cutA cl_b154_1) 4000 (e2_seek e2x_245 7) al_b154_1 [] E_b154_1 h_b154_1 = true := by decide +kernel
set_option maxRecDepth 1000000 in
theorem ci_b154_1 : e2_idl 4 (al_b154_1.set 2 (9, 0, 0)) = true := by decide +kernel
set_option maxRecDepth 1000000 in
theorem cj_b154_1 : e2_idh 4 8 h_b154_1 = true := by decide +kernel
theorem cs_b154 (hen : en_ok) (l : Launch) (hh : e2_hand_b l) : e2_smOk l 65 s_b154 := by
  refine e2_conG (H := 63) (n := 1) (C := evd_245) (S := S_b154) (I := I_b154) (fuel := 4000) hen ei_245 (e2_fa (cs_b127 hen l hh) e2_fz) (e2_fa ein_213 (e2_fa ein_216 e2_fz)) (by decide) co_b154 fun M d _ hC hcall p e R s m args below meth c Q D cA A ads r0 ha hl0 => ?_
  have L_0 : e2_gdM M p l e R s m args below meth c Q D cA A ads r0 174 al_b154_0 [] E_b154_0 h_b154_0 := by
    refine e2_indL (u := 4) (j := 2) (lo := 2147483648) (hi := 2147483668) (b := 4) (dd := 0) hl0 (by decide) rfl rfl (Or.inr ⟨rfl, rfl⟩) rfl ci_b154_0 cj_b154_0 ?_
    intro r_0 k_0 hk_0 hp_0 hs_0 hn_0
    have hl_0 : r_0.length ≤ 5 := hs_0.len rfl
    have ha_0 := ha.ext hp_0
    exact e2_fromM hen ha_0 hcall (e2_cutA_ok (e2_fa (fun al st E h hc => hn_0 al st E h hc) e2_fz)) (hC []) (X := e2x_245) ex2_245 174 ck_b154_0
  have EN_0 := e2_entL (u := 4) (j := 2) (lo := 2147483648) (hi := 2147483668) hl0 rfl rfl rfl ci_b154_0 cj_b154_0 L_0
  have L_1 : e2_gdM M p l e R s m args below meth c Q D cA A ads r0 7 al_b154_1 [] E_b154_1 h_b154_1 := by
    refine e2_indL (u := 4) (j := 2) (lo := 2147483648) (hi := 2147483668) (b := 4) (dd := 0) hl0 (by decide) rfl rfl (Or.inr ⟨rfl, rfl⟩) rfl ci_b154_1 cj_b154_1 ?_
    intro r_1 k_1 hk_1 hp_1 hs_1 hn_1
    have hl_1 : r_1.length ≤ 5 := hs_1.len rfl
    have ha_1 := ha.ext hp_1
    exact e2_fromM hen ha_1 hcall (e2_cutA_ok (e2_fa (fun al st E h hc => (EN_0 al st E h hc).ext hp_1) (e2_fa (fun al st E h hc => hn_1 al st E h hc) e2_fz))) (hC []) (X := e2x_245) ex2_245 7 ck_b154_1
  have EN_1 := e2_entL (u := 4) (j := 2) (lo := 2147483648) (hi := 2147483668) hl0 rfl rfl rfl ci_b154_1 cj_b154_1 L_1
  exact e2_from hen ha hcall (e2_cutA_ok (e2_fa (fun al st E h hc => EN_1 al st E h hc) e2_fz)) (hC []) (X := e2x_245) ex2_245 0 ck_b154_e
/-! b155 X10_goYear -/
def as_b155 : List ev_V := [(2, 83, 0)]
def E_b155 : e2_E := [(2147483648, 2147583648, 0, 0), (2147483648, 2147483656, 1, 0), (2147483648, 2147483688, 2, 0), (2147483648, 2147483688, 3, 0)]
noncomputable def f_b155 : ev_H := (bn1586 : e2_Q8)
noncomputable def q_b155_0 : ev_H := (bn1586 : e2_Q8)
noncomputable def rs_b155 : e2_Rs := [((11, 2147483647, 2147483668), q_b155_0)]
noncomputable def s_b155 : e2_Sm := (245, as_b155, E_b155, f_b155, rs_b155)
noncomputable def S_b155 : List e2_Sm := [s_b126]
noncomputable def I_b155 : List e2_In := [(213, 2, e2x_213), (216, 1, e2x_216)]
set_option maxRecDepth 1000000 in
theorem co_b155 : e2_okSB E_b155.length as_b155 f_b155 rs_b155 = true := by decide +kernel
def al_b155_0 : List ev_V := [(2, 83, 0), (11, 2147483647, 2147483668), (1, 4, 4294967296), (9, 0, 0)]
def E_b155_0 : e2_E := [(2147483648, 2147583648, 0, 0), (2147483648, 2147483656, 1, 0), (2147483648, 2147483688, 2, 0), (2147483648, 2147483688, 3, 0), (2147483648, 2147483668, 4, 0)]
noncomputable def h_b155_0 : ev_H := (bn1586 : e2_Q8)
def al_b155_1 : List ev_V := [(2, 83, 0), (11, 2147483647, 2147483668), (1, 4, 4294967296), (9, 0, 0)]
def E_b155_1 : e2_E := [(2147483648, 2147583648, 0, 0), (2147483648, 2147483656, 1, 0), (2147483648, 2147483688, 2, 0), (2147483648, 2147483688, 3, 0), (2147483648, 2147483668, 4, 0)]
noncomputable def h_b155_1 : ev_H := (bn1586 : e2_Q8)
noncomputable def cl_b155_e : List (Nat × e2_S) := [(7, e2_cutL (al_b155_1.set 2 (11, 2147483648, 2147483668)) 4 (E_b155_1.take 4) h_b155_1)]
set_option maxRecDepth 1000000 in
theorem ck_b155_e : e2_run (e2_cal S_b155 I_b155 4000 1) (e2_fin rs_b155) e2x_245 (e2_bpL cl_b155_e) (e2_cutA cl_b155_e) 4000 (e2_seek e2x_245 0) (e2_al 4 as_b155) [] E_b155 f_b155 = true := by decide +kernel
noncomputable def cl_b155_0 : List (Nat × e2_S) := [(174, e2_cutL (al_b155_0.set 2 (13, 12, 2147483668)) 4 (E_b155_0.take 4) h_b155_0)]
set_option maxRecDepth 1000000 in
theorem ck_b155_0 : e2_runM (e2_cal S_b155 I_b155 4000 1) (e2_fin rs_b155) e2x_245 (e2_bpL cl_b155_0) (e2_cutA cl_b155_0) 4000 (e2_seek e2x_245 174) al_b155_0 [] E_b155_0 h_b155_0 = true := by decide +kernel
set_option maxRecDepth 1000000 in
theorem ci_b155_0 : e2_idl 4 (al_b155_0.set 2 (9, 0, 0)) = true := by decide +kernel
set_option maxRecDepth 1000000 in
theorem cj_b155_0 : e2_idh 4 8 h_b155_0 = true := by decide +kernel
noncomputable def cl_b155_1 : List (Nat × e2_S) := [(174, e2_cutL (al_b155_0.set 2 (11, 2147483648, 2147483668)) 4 (E_b155_0.take 4) h_b155_0),
  (7, e2_cutL (al_b155_1.set 2 (13, 12, 2147483668)) 4 (E_b155_1.take 4) h_b155_1)]
set_option maxRecDepth 1000000 in
theorem ck_b155_1 : e2_runM (e2_cal S_b155 I_b155 4000 1) (e2_fin rs_b155) e2x_245 (e2_bpL cl_b155_1) (e2_cutA cl_b155_1) 4000 (e2_seek e2x_245 7) al_b155_1 [] E_b155_1 h_b155_1 = true := by decide +kernel
set_option maxRecDepth 1000000 in
theorem ci_b155_1 : e2_idl 4 (al_b155_1.set 2 (9, 0, 0)) = true := by decide +kernel
set_option maxRecDepth 1000000 in
theorem cj_b155_1 : e2_idh 4 8 h_b155_1 = true := by decide +kernel
theorem cs_b155 (hen : en_ok) (l : Launch) (hh : e2_hand_b l) : e2_smOk l 65 s_b155 := by
  refine e2_conG (H := 63) (n := 1) (C := evd_245) (S := S_b155) (I := I_b155) (fuel := 4000) hen ei_245 (e2_fa (cs_b126 hen l hh) e2_fz) (e2_fa ein_213 (e2_fa ein_216 e2_fz)) (by decide) co_b155 fun M d _ hC hcall p e R s m args below meth c Q D cA A ads r0 ha hl0 => ?_
  have L_0 : e2_gdM M p l e R s m args below meth c Q D cA A ads r0 174 al_b155_0 [] E_b155_0 h_b155_0 := by
    refine e2_indL (u := 4) (j := 2) (lo := 2147483648) (hi := 2147483668) (b := 4) (dd := 0) hl0 (by decide) rfl rfl (Or.inr ⟨rfl, rfl⟩) rfl ci_b155_0 cj_b155_0 ?_
    intro r_0 k_0 hk_0 hp_0 hs_0 hn_0
    have hl_0 : r_0.length ≤ 5 := hs_0.len rfl
    have ha_0 := ha.ext hp_0
    exact e2_fromM hen ha_0 hcall (e2_cutA_ok (e2_fa (fun al st E h hc => hn_0 al st E h hc) e2_fz)) (hC []) (X := e2x_245) ex2_245 174 ck_b155_0
  have EN_0 := e2_entL (u := 4) (j := 2) (lo := 2147483648) (hi := 2147483668) hl0 rfl rfl rfl ci_b155_0 cj_b155_0 L_0
  have L_1 : e2_gdM M p l e R s m args below meth c Q D cA A ads r0 7 al_b155_1 [] E_b155_1 h_b155_1 := by
    refine e2_indL (u := 4) (j := 2) (lo := 2147483648) (hi := 2147483668) (b := 4) (dd := 0) hl0 (by decide) rfl rfl (Or.inr ⟨rfl, rfl⟩) rfl ci_b155_1 cj_b155_1 ?_
    intro r_1 k_1 hk_1 hp_1 hs_1 hn_1
    have hl_1 : r_1.length ≤ 5 := hs_1.len rfl
    have ha_1 := ha.ext hp_1
    exact e2_fromM hen ha_1 hcall (e2_cutA_ok (e2_fa (fun al st E h hc => (EN_0 al st E h hc).ext hp_1) (e2_fa (fun al st E h hc => hn_1 al st E h hc) e2_fz))) (hC []) (X := e2x_245) ex2_245 7 ck_b155_1
  have EN_1 := e2_entL (u := 4) (j := 2) (lo := 2147483648) (hi := 2147483668) hl0 rfl rfl rfl ci_b155_1 cj_b155_1 L_1
  exact e2_from hen ha hcall (e2_cutA_ok (e2_fa (fun al st E h hc => EN_1 al st E h hc) e2_fz)) (hC []) (X := e2x_245) ex2_245 0 ck_b155_e
/-! b156 X10_goYear -/
def as_b156 : List ev_V := [(2, 83, 0)]
def E_b156 : e2_E := [(2147483648, 2147583648, 0, 0), (2147483648, 2147483656, 1, 0), (2147483648, 2147483688, 2, 0), (2147483648, 2147483688, 3, 0)]
def bn1608 : e2_Q6 := (bn1547, bn1531)
def bn1609 : e2_Q7 := (bn1608, bn1533)
def bn1610 : e2_Q4 := (bn322, bn355)
def bn1611 : e2_Q5 := (bn1599, bn1610)
def bn1612 : e2_Q6 := (bn1611, bn312)
def bn1613 : e2_Q7 := (bn1537, bn1612)
def bn1614 : e2_Q8 := (bn1609, bn1613)
noncomputable def f_b156 : ev_H := (bn1614 : e2_Q8)
noncomputable def q_b156_0 : ev_H := (bn1614 : e2_Q8)
noncomputable def rs_b156 : e2_Rs := [((11, 2147483647, 2147483668), q_b156_0)]
noncomputable def s_b156 : e2_Sm := (245, as_b156, E_b156, f_b156, rs_b156)
noncomputable def S_b156 : List e2_Sm := [s_b5, s_b129]
noncomputable def I_b156 : List e2_In := [(213, 2, e2x_213), (216, 1, e2x_216)]
set_option maxRecDepth 1000000 in
theorem co_b156 : e2_okSB E_b156.length as_b156 f_b156 rs_b156 = true := by decide +kernel
def al_b156_0 : List ev_V := [(2, 83, 0), (11, 2147483647, 2147483668), (1, 4, 4294967296), (9, 0, 0)]
def E_b156_0 : e2_E := [(2147483648, 2147583648, 0, 0), (2147483648, 2147483656, 1, 0), (2147483648, 2147483688, 2, 0), (2147483648, 2147483688, 3, 0), (2147483648, 2147483668, 4, 0)]
noncomputable def h_b156_0 : ev_H := (bn1614 : e2_Q8)
def al_b156_1 : List ev_V := [(2, 83, 0), (11, 2147483647, 2147483668), (1, 4, 4294967296), (9, 0, 0)]
def E_b156_1 : e2_E := [(2147483648, 2147583648, 0, 0), (2147483648, 2147483656, 1, 0), (2147483648, 2147483688, 2, 0), (2147483648, 2147483688, 3, 0), (2147483648, 2147483668, 4, 0)]
noncomputable def h_b156_1 : ev_H := (bn1614 : e2_Q8)
noncomputable def cl_b156_e : List (Nat × e2_S) := [(7, e2_cutL (al_b156_1.set 2 (11, 2147483648, 2147483668)) 4 (E_b156_1.take 4) h_b156_1)]
set_option maxRecDepth 1000000 in
theorem ck_b156_e : e2_run (e2_cal S_b156 I_b156 4000 1) (e2_fin rs_b156) e2x_245 (e2_bpL cl_b156_e) (e2_cutA cl_b156_e) 4000 (e2_seek e2x_245 0) (e2_al 4 as_b156) [] E_b156 f_b156 = true := by decide +kernel
noncomputable def cl_b156_0 : List (Nat × e2_S) := [(174, e2_cutL (al_b156_0.set 2 (13, 12, 2147483668)) 4 (E_b156_0.take 4) h_b156_0)]
set_option maxRecDepth 1000000 in
theorem ck_b156_0 : e2_runM (e2_cal S_b156 I_b156 4000 1) (e2_fin rs_b156) e2x_245 (e2_bpL cl_b156_0) (e2_cutA cl_b156_0) 4000 (e2_seek e2x_245 174) al_b156_0 [] E_b156_0 h_b156_0 = true := by decide +kernel
set_option maxRecDepth 1000000 in
theorem ci_b156_0 : e2_idl 4 (al_b156_0.set 2 (9, 0, 0)) = true := by decide +kernel
set_option maxRecDepth 1000000 in
theorem cj_b156_0 : e2_idh 4 8 h_b156_0 = true := by decide +kernel
noncomputable def cl_b156_1 : List (Nat × e2_S) := [(174, e2_cutL (al_b156_0.set 2 (11, 2147483648, 2147483668)) 4 (E_b156_0.take 4) h_b156_0),
  (7, e2_cutL (al_b156_1.set 2 (13, 12, 2147483668)) 4 (E_b156_1.take 4) h_b156_1)]
set_option maxRecDepth 1000000 in
theorem ck_b156_1 : e2_runM (e2_cal S_b156 I_b156 4000 1) (e2_fin rs_b156) e2x_245 (e2_bpL cl_b156_1) (e2_cutA cl_b156_1) 4000 (e2_seek e2x_245 7) al_b156_1 [] E_b156_1 h_b156_1 = true := by decide +kernel
set_option maxRecDepth 1000000 in
theorem ci_b156_1 : e2_idl 4 (al_b156_1.set 2 (9, 0, 0)) = true := by decide +kernel
set_option maxRecDepth 1000000 in
theorem cj_b156_1 : e2_idh 4 8 h_b156_1 = true := by decide +kernel
theorem cs_b156 (hen : en_ok) (l : Launch) (hh : e2_hand_b l) : e2_smOk l 62 s_b156 := by
  refine e2_conG (H := 60) (n := 1) (C := evd_245) (S := S_b156) (I := I_b156) (fuel := 4000) hen ei_245 (e2_fa (hh _ hm_b5) (e2_fa ((cs_b129 hen l).mono (by decide)) e2_fz)) (e2_fa ein_213 (e2_fa ein_216 e2_fz)) (by decide) co_b156 fun M d _ hC hcall p e R s m args below meth c Q D cA A ads r0 ha hl0 => ?_
  have L_0 : e2_gdM M p l e R s m args below meth c Q D cA A ads r0 174 al_b156_0 [] E_b156_0 h_b156_0 := by
    refine e2_indL (u := 4) (j := 2) (lo := 2147483648) (hi := 2147483668) (b := 4) (dd := 0) hl0 (by decide) rfl rfl (Or.inr ⟨rfl, rfl⟩) rfl ci_b156_0 cj_b156_0 ?_
    intro r_0 k_0 hk_0 hp_0 hs_0 hn_0
    have hl_0 : r_0.length ≤ 5 := hs_0.len rfl
    have ha_0 := ha.ext hp_0
    exact e2_fromM hen ha_0 hcall (e2_cutA_ok (e2_fa (fun al st E h hc => hn_0 al st E h hc) e2_fz)) (hC []) (X := e2x_245) ex2_245 174 ck_b156_0
  have EN_0 := e2_entL (u := 4) (j := 2) (lo := 2147483648) (hi := 2147483668) hl0 rfl rfl rfl ci_b156_0 cj_b156_0 L_0
  have L_1 : e2_gdM M p l e R s m args below meth c Q D cA A ads r0 7 al_b156_1 [] E_b156_1 h_b156_1 := by
    refine e2_indL (u := 4) (j := 2) (lo := 2147483648) (hi := 2147483668) (b := 4) (dd := 0) hl0 (by decide) rfl rfl (Or.inr ⟨rfl, rfl⟩) rfl ci_b156_1 cj_b156_1 ?_
    intro r_1 k_1 hk_1 hp_1 hs_1 hn_1
    have hl_1 : r_1.length ≤ 5 := hs_1.len rfl
    have ha_1 := ha.ext hp_1
    exact e2_fromM hen ha_1 hcall (e2_cutA_ok (e2_fa (fun al st E h hc => (EN_0 al st E h hc).ext hp_1) (e2_fa (fun al st E h hc => hn_1 al st E h hc) e2_fz))) (hC []) (X := e2x_245) ex2_245 7 ck_b156_1
  have EN_1 := e2_entL (u := 4) (j := 2) (lo := 2147483648) (hi := 2147483668) hl0 rfl rfl rfl ci_b156_1 cj_b156_1 L_1
  exact e2_from hen ha hcall (e2_cutA_ok (e2_fa (fun al st E h hc => EN_1 al st E h hc) e2_fz)) (hC []) (X := e2x_245) ex2_245 0 ck_b156_e
/-! b157 X10_goYear -/
def as_b157 : List ev_V := [(2, 83, 0)]
def E_b157 : e2_E := [(2147483648, 2147583648, 0, 0), (2147483648, 2147483656, 1, 0), (2147483648, 2147483688, 2, 0), (2147483648, 2147483688, 3, 0)]
def bn1615 : e2_Q5 := (bn1578, bn1610)
def bn1616 : e2_Q6 := (bn1615, bn312)
def bn1617 : e2_Q7 := (bn1537, bn1616)
def bn1618 : e2_Q8 := (bn1609, bn1617)
noncomputable def f_b157 : ev_H := (bn1618 : e2_Q8)
noncomputable def q_b157_0 : ev_H := (bn1618 : e2_Q8)
noncomputable def rs_b157 : e2_Rs := [((11, 2147483647, 2147483668), q_b157_0)]
noncomputable def s_b157 : e2_Sm := (245, as_b157, E_b157, f_b157, rs_b157)
noncomputable def S_b157 : List e2_Sm := [s_b6, s_b128]
noncomputable def I_b157 : List e2_In := [(213, 2, e2x_213), (216, 1, e2x_216)]
set_option maxRecDepth 1000000 in
theorem co_b157 : e2_okSB E_b157.length as_b157 f_b157 rs_b157 = true := by decide +kernel
def al_b157_0 : List ev_V := [(2, 83, 0), (11, 2147483647, 2147483668), (1, 4, 4294967296), (9, 0, 0)]
def E_b157_0 : e2_E := [(2147483648, 2147583648, 0, 0), (2147483648, 2147483656, 1, 0), (2147483648, 2147483688, 2, 0), (2147483648, 2147483688, 3, 0), (2147483648, 2147483668, 4, 0)]
noncomputable def h_b157_0 : ev_H := (bn1618 : e2_Q8)
def al_b157_1 : List ev_V := [(2, 83, 0), (11, 2147483647, 2147483668), (1, 4, 4294967296), (9, 0, 0)]
def E_b157_1 : e2_E := [(2147483648, 2147583648, 0, 0), (2147483648, 2147483656, 1, 0), (2147483648, 2147483688, 2, 0), (2147483648, 2147483688, 3, 0), (2147483648, 2147483668, 4, 0)]
noncomputable def h_b157_1 : ev_H := (bn1618 : e2_Q8)
noncomputable def cl_b157_e : List (Nat × e2_S) := [(7, e2_cutL (al_b157_1.set 2 (11, 2147483648, 2147483668)) 4 (E_b157_1.take 4) h_b157_1)]
set_option maxRecDepth 1000000 in
theorem ck_b157_e : e2_run (e2_cal S_b157 I_b157 4000 1) (e2_fin rs_b157) e2x_245 (e2_bpL cl_b157_e) (e2_cutA cl_b157_e) 4000 (e2_seek e2x_245 0) (e2_al 4 as_b157) [] E_b157 f_b157 = true := by decide +kernel
noncomputable def cl_b157_0 : List (Nat × e2_S) := [(174, e2_cutL (al_b157_0.set 2 (13, 12, 2147483668)) 4 (E_b157_0.take 4) h_b157_0)]
set_option maxRecDepth 1000000 in
theorem ck_b157_0 : e2_runM (e2_cal S_b157 I_b157 4000 1) (e2_fin rs_b157) e2x_245 (e2_bpL cl_b157_0) (e2_cutA cl_b157_0) 4000 (e2_seek e2x_245 174) al_b157_0 [] E_b157_0 h_b157_0 = true := by decide +kernel
set_option maxRecDepth 1000000 in
theorem ci_b157_0 : e2_idl 4 (al_b157_0.set 2 (9, 0, 0)) = true := by decide +kernel
set_option maxRecDepth 1000000 in
theorem cj_b157_0 : e2_idh 4 8 h_b157_0 = true := by decide +kernel
noncomputable def cl_b157_1 : List (Nat × e2_S) := [(174, e2_cutL (al_b157_0.set 2 (11, 2147483648, 2147483668)) 4 (E_b157_0.take 4) h_b157_0),
  (7, e2_cutL (al_b157_1.set 2 (13, 12, 2147483668)) 4 (E_b157_1.take 4) h_b157_1)]
set_option maxRecDepth 1000000 in
theorem ck_b157_1 : e2_runM (e2_cal S_b157 I_b157 4000 1) (e2_fin rs_b157) e2x_245 (e2_bpL cl_b157_1) (e2_cutA cl_b157_1) 4000 (e2_seek e2x_245 7) al_b157_1 [] E_b157_1 h_b157_1 = true := by decide +kernel
set_option maxRecDepth 1000000 in
theorem ci_b157_1 : e2_idl 4 (al_b157_1.set 2 (9, 0, 0)) = true := by decide +kernel
set_option maxRecDepth 1000000 in
theorem cj_b157_1 : e2_idh 4 8 h_b157_1 = true := by decide +kernel
theorem cs_b157 (hen : en_ok) (l : Launch) (hh : e2_hand_b l) : e2_smOk l 62 s_b157 := by
  refine e2_conG (H := 60) (n := 1) (C := evd_245) (S := S_b157) (I := I_b157) (fuel := 4000) hen ei_245 (e2_fa (hh _ hm_b6) (e2_fa ((cs_b128 hen l).mono (by decide)) e2_fz)) (e2_fa ein_213 (e2_fa ein_216 e2_fz)) (by decide) co_b157 fun M d _ hC hcall p e R s m args below meth c Q D cA A ads r0 ha hl0 => ?_
  have L_0 : e2_gdM M p l e R s m args below meth c Q D cA A ads r0 174 al_b157_0 [] E_b157_0 h_b157_0 := by
    refine e2_indL (u := 4) (j := 2) (lo := 2147483648) (hi := 2147483668) (b := 4) (dd := 0) hl0 (by decide) rfl rfl (Or.inr ⟨rfl, rfl⟩) rfl ci_b157_0 cj_b157_0 ?_
    intro r_0 k_0 hk_0 hp_0 hs_0 hn_0
    have hl_0 : r_0.length ≤ 5 := hs_0.len rfl
    have ha_0 := ha.ext hp_0
    exact e2_fromM hen ha_0 hcall (e2_cutA_ok (e2_fa (fun al st E h hc => hn_0 al st E h hc) e2_fz)) (hC []) (X := e2x_245) ex2_245 174 ck_b157_0
  have EN_0 := e2_entL (u := 4) (j := 2) (lo := 2147483648) (hi := 2147483668) hl0 rfl rfl rfl ci_b157_0 cj_b157_0 L_0
  have L_1 : e2_gdM M p l e R s m args below meth c Q D cA A ads r0 7 al_b157_1 [] E_b157_1 h_b157_1 := by
    refine e2_indL (u := 4) (j := 2) (lo := 2147483648) (hi := 2147483668) (b := 4) (dd := 0) hl0 (by decide) rfl rfl (Or.inr ⟨rfl, rfl⟩) rfl ci_b157_1 cj_b157_1 ?_
    intro r_1 k_1 hk_1 hp_1 hs_1 hn_1
    have hl_1 : r_1.length ≤ 5 := hs_1.len rfl
    have ha_1 := ha.ext hp_1
    exact e2_fromM hen ha_1 hcall (e2_cutA_ok (e2_fa (fun al st E h hc => (EN_0 al st E h hc).ext hp_1) (e2_fa (fun al st E h hc => hn_1 al st E h hc) e2_fz))) (hC []) (X := e2x_245) ex2_245 7 ck_b157_1
  have EN_1 := e2_entL (u := 4) (j := 2) (lo := 2147483648) (hi := 2147483668) hl0 rfl rfl rfl ci_b157_1 cj_b157_1 L_1
  exact e2_from hen ha hcall (e2_cutA_ok (e2_fa (fun al st E h hc => EN_1 al st E h hc) e2_fz)) (hC []) (X := e2x_245) ex2_245 0 ck_b157_e
/-! b158 X10_goYear -/
def as_b158 : List ev_V := [(2, 83, 0)]
def E_b158 : e2_E := [(2147483648, 2147583648, 0, 0), (2147483648, 2147483656, 1, 0), (2147483648, 2147483688, 2, 0), (2147483648, 2147483688, 3, 0)]
def bn1619 : e2_Q5 := (bn1599, bn1555)
def bn1620 : e2_Q6 := (bn1619, bn312)
def bn1621 : e2_Q7 := (bn1537, bn1620)
def bn1622 : e2_Q8 := (bn1554, bn1621)
noncomputable def f_b158 : ev_H := (bn1622 : e2_Q8)
noncomputable def q_b158_0 : ev_H := (bn1622 : e2_Q8)
noncomputable def rs_b158 : e2_Rs := [((11, 2147483647, 2147483668), q_b158_0)]
noncomputable def s_b158 : e2_Sm := (245, as_b158, E_b158, f_b158, rs_b158)
noncomputable def S_b158 : List e2_Sm := [s_b9, s_b131]
noncomputable def I_b158 : List e2_In := [(213, 2, e2x_213), (216, 1, e2x_216)]
set_option maxRecDepth 1000000 in
theorem co_b158 : e2_okSB E_b158.length as_b158 f_b158 rs_b158 = true := by decide +kernel
def al_b158_0 : List ev_V := [(2, 83, 0), (11, 2147483647, 2147483668), (1, 4, 4294967296), (9, 0, 0)]
def E_b158_0 : e2_E := [(2147483648, 2147583648, 0, 0), (2147483648, 2147483656, 1, 0), (2147483648, 2147483688, 2, 0), (2147483648, 2147483688, 3, 0), (2147483648, 2147483668, 4, 0)]
noncomputable def h_b158_0 : ev_H := (bn1622 : e2_Q8)
def al_b158_1 : List ev_V := [(2, 83, 0), (11, 2147483647, 2147483668), (1, 4, 4294967296), (9, 0, 0)]
def E_b158_1 : e2_E := [(2147483648, 2147583648, 0, 0), (2147483648, 2147483656, 1, 0), (2147483648, 2147483688, 2, 0), (2147483648, 2147483688, 3, 0), (2147483648, 2147483668, 4, 0)]
noncomputable def h_b158_1 : ev_H := (bn1622 : e2_Q8)
noncomputable def cl_b158_e : List (Nat × e2_S) := [(7, e2_cutL (al_b158_1.set 2 (11, 2147483648, 2147483668)) 4 (E_b158_1.take 4) h_b158_1)]
set_option maxRecDepth 1000000 in
theorem ck_b158_e : e2_run (e2_cal S_b158 I_b158 4000 1) (e2_fin rs_b158) e2x_245 (e2_bpL cl_b158_e) (e2_cutA cl_b158_e) 4000 (e2_seek e2x_245 0) (e2_al 4 as_b158) [] E_b158 f_b158 = true := by decide +kernel
noncomputable def cl_b158_0 : List (Nat × e2_S) := [(174, e2_cutL (al_b158_0.set 2 (13, 12, 2147483668)) 4 (E_b158_0.take 4) h_b158_0)]
set_option maxRecDepth 1000000 in
theorem ck_b158_0 : e2_runM (e2_cal S_b158 I_b158 4000 1) (e2_fin rs_b158) e2x_245 (e2_bpL cl_b158_0) (e2_cutA cl_b158_0) 4000 (e2_seek e2x_245 174) al_b158_0 [] E_b158_0 h_b158_0 = true := by decide +kernel
set_option maxRecDepth 1000000 in
theorem ci_b158_0 : e2_idl 4 (al_b158_0.set 2 (9, 0, 0)) = true := by decide +kernel
set_option maxRecDepth 1000000 in
theorem cj_b158_0 : e2_idh 4 8 h_b158_0 = true := by decide +kernel
noncomputable def cl_b158_1 : List (Nat × e2_S) := [(174, e2_cutL (al_b158_0.set 2 (11, 2147483648, 2147483668)) 4 (E_b158_0.take 4) h_b158_0),
  (7, e2_cutL (al_b158_1.set 2 (13, 12, 2147483668)) 4 (E_b158_1.take 4) h_b158_1)]
set_option maxRecDepth 1000000 in
theorem ck_b158_1 : e2_runM (e2_cal S_b158 I_b158 4000 1) (e2_fin rs_b158) e2x_245 (e2_bpL cl_b158_1) (e2_cutA cl_b158_1) 4000 (e2_seek e2x_245 7) al_b158_1 [] E_b158_1 h_b158_1 = true := by decide +kernel
set_option maxRecDepth 1000000 in
theorem ci_b158_1 : e2_idl 4 (al_b158_1.set 2 (9, 0, 0)) = true := by decide +kernel
set_option maxRecDepth 1000000 in
theorem cj_b158_1 : e2_idh 4 8 h_b158_1 = true := by decide +kernel
theorem cs_b158 (hen : en_ok) (l : Launch) (hh : e2_hand_b l) : e2_smOk l 65 s_b158 := by
  refine e2_conG (H := 63) (n := 1) (C := evd_245) (S := S_b158) (I := I_b158) (fuel := 4000) hen ei_245 (e2_fa ((hh _ hm_b9).mono (by decide)) (e2_fa (cs_b131 hen l hh) e2_fz)) (e2_fa ein_213 (e2_fa ein_216 e2_fz)) (by decide) co_b158 fun M d _ hC hcall p e R s m args below meth c Q D cA A ads r0 ha hl0 => ?_
  have L_0 : e2_gdM M p l e R s m args below meth c Q D cA A ads r0 174 al_b158_0 [] E_b158_0 h_b158_0 := by
    refine e2_indL (u := 4) (j := 2) (lo := 2147483648) (hi := 2147483668) (b := 4) (dd := 0) hl0 (by decide) rfl rfl (Or.inr ⟨rfl, rfl⟩) rfl ci_b158_0 cj_b158_0 ?_
    intro r_0 k_0 hk_0 hp_0 hs_0 hn_0
    have hl_0 : r_0.length ≤ 5 := hs_0.len rfl
    have ha_0 := ha.ext hp_0
    exact e2_fromM hen ha_0 hcall (e2_cutA_ok (e2_fa (fun al st E h hc => hn_0 al st E h hc) e2_fz)) (hC []) (X := e2x_245) ex2_245 174 ck_b158_0
  have EN_0 := e2_entL (u := 4) (j := 2) (lo := 2147483648) (hi := 2147483668) hl0 rfl rfl rfl ci_b158_0 cj_b158_0 L_0
  have L_1 : e2_gdM M p l e R s m args below meth c Q D cA A ads r0 7 al_b158_1 [] E_b158_1 h_b158_1 := by
    refine e2_indL (u := 4) (j := 2) (lo := 2147483648) (hi := 2147483668) (b := 4) (dd := 0) hl0 (by decide) rfl rfl (Or.inr ⟨rfl, rfl⟩) rfl ci_b158_1 cj_b158_1 ?_
    intro r_1 k_1 hk_1 hp_1 hs_1 hn_1
    have hl_1 : r_1.length ≤ 5 := hs_1.len rfl
    have ha_1 := ha.ext hp_1
    exact e2_fromM hen ha_1 hcall (e2_cutA_ok (e2_fa (fun al st E h hc => (EN_0 al st E h hc).ext hp_1) (e2_fa (fun al st E h hc => hn_1 al st E h hc) e2_fz))) (hC []) (X := e2x_245) ex2_245 7 ck_b158_1
  have EN_1 := e2_entL (u := 4) (j := 2) (lo := 2147483648) (hi := 2147483668) hl0 rfl rfl rfl ci_b158_1 cj_b158_1 L_1
  exact e2_from hen ha hcall (e2_cutA_ok (e2_fa (fun al st E h hc => EN_1 al st E h hc) e2_fz)) (hC []) (X := e2x_245) ex2_245 0 ck_b158_e
/-! b159 X10_goYear -/
def as_b159 : List ev_V := [(2, 83, 0)]
def E_b159 : e2_E := [(2147483648, 2147583648, 0, 0), (2147483648, 2147483656, 1, 0), (2147483648, 2147483688, 2, 0), (2147483648, 2147483688, 3, 0)]
noncomputable def f_b159 : ev_H := (bn1591 : e2_Q8)
noncomputable def q_b159_0 : ev_H := (bn1591 : e2_Q8)
noncomputable def rs_b159 : e2_Rs := [((11, 2147483647, 2147483668), q_b159_0)]
noncomputable def s_b159 : e2_Sm := (245, as_b159, E_b159, f_b159, rs_b159)
noncomputable def S_b159 : List e2_Sm := [s_b10, s_b130]
noncomputable def I_b159 : List e2_In := [(213, 2, e2x_213), (216, 1, e2x_216)]
set_option maxRecDepth 1000000 in
theorem co_b159 : e2_okSB E_b159.length as_b159 f_b159 rs_b159 = true := by decide +kernel
def al_b159_0 : List ev_V := [(2, 83, 0), (11, 2147483647, 2147483668), (1, 4, 4294967296), (9, 0, 0)]
def E_b159_0 : e2_E := [(2147483648, 2147583648, 0, 0), (2147483648, 2147483656, 1, 0), (2147483648, 2147483688, 2, 0), (2147483648, 2147483688, 3, 0), (2147483648, 2147483668, 4, 0)]
noncomputable def h_b159_0 : ev_H := (bn1591 : e2_Q8)
def al_b159_1 : List ev_V := [(2, 83, 0), (11, 2147483647, 2147483668), (1, 4, 4294967296), (9, 0, 0)]
def E_b159_1 : e2_E := [(2147483648, 2147583648, 0, 0), (2147483648, 2147483656, 1, 0), (2147483648, 2147483688, 2, 0), (2147483648, 2147483688, 3, 0), (2147483648, 2147483668, 4, 0)]
noncomputable def h_b159_1 : ev_H := (bn1591 : e2_Q8)
noncomputable def cl_b159_e : List (Nat × e2_S) := [(7, e2_cutL (al_b159_1.set 2 (11, 2147483648, 2147483668)) 4 (E_b159_1.take 4) h_b159_1)]
set_option maxRecDepth 1000000 in
theorem ck_b159_e : e2_run (e2_cal S_b159 I_b159 4000 1) (e2_fin rs_b159) e2x_245 (e2_bpL cl_b159_e) (e2_cutA cl_b159_e) 4000 (e2_seek e2x_245 0) (e2_al 4 as_b159) [] E_b159 f_b159 = true := by decide +kernel
noncomputable def cl_b159_0 : List (Nat × e2_S) := [(174, e2_cutL (al_b159_0.set 2 (13, 12, 2147483668)) 4 (E_b159_0.take 4) h_b159_0)]
set_option maxRecDepth 1000000 in
theorem ck_b159_0 : e2_runM (e2_cal S_b159 I_b159 4000 1) (e2_fin rs_b159) e2x_245 (e2_bpL cl_b159_0) (e2_cutA cl_b159_0) 4000 (e2_seek e2x_245 174) al_b159_0 [] E_b159_0 h_b159_0 = true := by decide +kernel
set_option maxRecDepth 1000000 in
theorem ci_b159_0 : e2_idl 4 (al_b159_0.set 2 (9, 0, 0)) = true := by decide +kernel
set_option maxRecDepth 1000000 in
theorem cj_b159_0 : e2_idh 4 8 h_b159_0 = true := by decide +kernel
noncomputable def cl_b159_1 : List (Nat × e2_S) := [(174, e2_cutL (al_b159_0.set 2 (11, 2147483648, 2147483668)) 4 (E_b159_0.take 4) h_b159_0),
  (7, e2_cutL (al_b159_1.set 2 (13, 12, 2147483668)) 4 (E_b159_1.take 4) h_b159_1)]
set_option maxRecDepth 1000000 in
theorem ck_b159_1 : e2_runM (e2_cal S_b159 I_b159 4000 1) (e2_fin rs_b159) e2x_245 (e2_bpL cl_b159_1) (e2_cutA cl_b159_1) 4000 (e2_seek e2x_245 7) al_b159_1 [] E_b159_1 h_b159_1 = true := by decide +kernel
set_option maxRecDepth 1000000 in
theorem ci_b159_1 : e2_idl 4 (al_b159_1.set 2 (9, 0, 0)) = true := by decide +kernel
set_option maxRecDepth 1000000 in
theorem cj_b159_1 : e2_idh 4 8 h_b159_1 = true := by decide +kernel
theorem cs_b159 (hen : en_ok) (l : Launch) (hh : e2_hand_b l) : e2_smOk l 65 s_b159 := by
  refine e2_conG (H := 63) (n := 1) (C := evd_245) (S := S_b159) (I := I_b159) (fuel := 4000) hen ei_245 (e2_fa ((hh _ hm_b10).mono (by decide)) (e2_fa (cs_b130 hen l hh) e2_fz)) (e2_fa ein_213 (e2_fa ein_216 e2_fz)) (by decide) co_b159 fun M d _ hC hcall p e R s m args below meth c Q D cA A ads r0 ha hl0 => ?_
  have L_0 : e2_gdM M p l e R s m args below meth c Q D cA A ads r0 174 al_b159_0 [] E_b159_0 h_b159_0 := by
    refine e2_indL (u := 4) (j := 2) (lo := 2147483648) (hi := 2147483668) (b := 4) (dd := 0) hl0 (by decide) rfl rfl (Or.inr ⟨rfl, rfl⟩) rfl ci_b159_0 cj_b159_0 ?_
    intro r_0 k_0 hk_0 hp_0 hs_0 hn_0
    have hl_0 : r_0.length ≤ 5 := hs_0.len rfl
    have ha_0 := ha.ext hp_0
    exact e2_fromM hen ha_0 hcall (e2_cutA_ok (e2_fa (fun al st E h hc => hn_0 al st E h hc) e2_fz)) (hC []) (X := e2x_245) ex2_245 174 ck_b159_0
  have EN_0 := e2_entL (u := 4) (j := 2) (lo := 2147483648) (hi := 2147483668) hl0 rfl rfl rfl ci_b159_0 cj_b159_0 L_0
  have L_1 : e2_gdM M p l e R s m args below meth c Q D cA A ads r0 7 al_b159_1 [] E_b159_1 h_b159_1 := by
    refine e2_indL (u := 4) (j := 2) (lo := 2147483648) (hi := 2147483668) (b := 4) (dd := 0) hl0 (by decide) rfl rfl (Or.inr ⟨rfl, rfl⟩) rfl ci_b159_1 cj_b159_1 ?_
    intro r_1 k_1 hk_1 hp_1 hs_1 hn_1
    have hl_1 : r_1.length ≤ 5 := hs_1.len rfl
    have ha_1 := ha.ext hp_1
    exact e2_fromM hen ha_1 hcall (e2_cutA_ok (e2_fa (fun al st E h hc => (EN_0 al st E h hc).ext hp_1) (e2_fa (fun al st E h hc => hn_1 al st E h hc) e2_fz))) (hC []) (X := e2x_245) ex2_245 7 ck_b159_1
  have EN_1 := e2_entL (u := 4) (j := 2) (lo := 2147483648) (hi := 2147483668) hl0 rfl rfl rfl ci_b159_1 cj_b159_1 L_1
  exact e2_from hen ha hcall (e2_cutA_ok (e2_fa (fun al st E h hc => EN_1 al st E h hc) e2_fz)) (hC []) (X := e2x_245) ex2_245 0 ck_b159_e
/-! b160 X10_year -/
def as_b160 : List ev_V := [(2, 83, 0)]
def E_b160 : e2_E := [(2147483648, 2147583648, 0, 0), (2147483648, 2147483656, 1, 0), (2147483648, 2147483688, 2, 0), (2147483648, 2147483688, 3, 0)]
def bn1623 : e2_Q6 := (bn1519, bn1594)
def bn1624 : e2_Q7 := (bn1517, bn1623)
def bn1625 : e2_Q8 := (bn1624, bn1581)
noncomputable def f_b160 : ev_H := (bn1625 : e2_Q8)
noncomputable def q_b160_0 : ev_H := (bn1625 : e2_Q8)
def bn1626 : e2_Q8 := (bn1624, bn1602)
noncomputable def q_b160_1 : ev_H := (bn1626 : e2_Q8)
noncomputable def rs_b160 : e2_Rs := [((0, 4294967294, 0), q_b160_0), ((11, 2147483647, 2147483668), q_b160_1)]
noncomputable def s_b160 : e2_Sm := (246, as_b160, E_b160, f_b160, rs_b160)
noncomputable def S_b160 : List e2_Sm := [s_b1, s_b152]
noncomputable def I_b160 : List e2_In := []
set_option maxRecDepth 1000000 in
theorem ck_b160 : e2_run (e2_cal S_b160 I_b160 4000 0) (e2_fin rs_b160) e2x_246 (fun _ => false) (fun _ _ _ _ _ => false) 4000 (e2_seek e2x_246 0) (e2_al 1 as_b160) [] E_b160 f_b160 = true := by decide +kernel
set_option maxRecDepth 1000000 in
theorem co_b160 : e2_okSB E_b160.length as_b160 f_b160 rs_b160 = true := by decide +kernel
theorem cs_b160 (hen : en_ok) (l : Launch) (hh : e2_hand_b l) : e2_smOk l 61 s_b160 := e2_con0 (H := 60) (n := 0) (C := evd_246) (S := S_b160) (I := I_b160) (fuel := 4000) [] hen ei_246 (e2_fa (hh _ hm_b1) (e2_fa ((cs_b152 hen l).mono (by decide)) e2_fz)) e2_fz (by decide) co_b160 ex2_246 ck_b160
/-! b161 X10_year -/
def as_b161 : List ev_V := [(2, 83, 0)]
def E_b161 : e2_E := [(2147483648, 2147583648, 0, 0), (2147483648, 2147483656, 1, 0), (2147483648, 2147483688, 2, 0), (2147483648, 2147483688, 3, 0)]
def bn1627 : e2_Q4 := (bn292, bn1592)
def bn1628 : e2_Q5 := (bn1627, bn123)
def bn1629 : e2_Q6 := (bn1519, bn1628)
def bn1630 : e2_Q7 := (bn1532, bn1629)
def bn1631 : e2_Q8 := (bn1630, bn1585)
noncomputable def f_b161 : ev_H := (bn1631 : e2_Q8)
noncomputable def q_b161_0 : ev_H := (bn1631 : e2_Q8)
def bn1632 : e2_Q8 := (bn1630, bn1606)
noncomputable def q_b161_1 : ev_H := (bn1632 : e2_Q8)
noncomputable def rs_b161 : e2_Rs := [((0, 4294967294, 0), q_b161_0), ((11, 2147483647, 2147483668), q_b161_1)]
noncomputable def s_b161 : e2_Sm := (246, as_b161, E_b161, f_b161, rs_b161)
noncomputable def S_b161 : List e2_Sm := [s_b1, s_b154]
noncomputable def I_b161 : List e2_In := []
set_option maxRecDepth 1000000 in
theorem ck_b161 : e2_run (e2_cal S_b161 I_b161 4000 0) (e2_fin rs_b161) e2x_246 (fun _ => false) (fun _ _ _ _ _ => false) 4000 (e2_seek e2x_246 0) (e2_al 1 as_b161) [] E_b161 f_b161 = true := by decide +kernel
set_option maxRecDepth 1000000 in
theorem co_b161 : e2_okSB E_b161.length as_b161 f_b161 rs_b161 = true := by decide +kernel
theorem cs_b161 (hen : en_ok) (l : Launch) (hh : e2_hand_b l) : e2_smOk l 66 s_b161 := e2_con0 (H := 65) (n := 0) (C := evd_246) (S := S_b161) (I := I_b161) (fuel := 4000) [] hen ei_246 (e2_fa ((hh _ hm_b1).mono (by decide)) (e2_fa (cs_b154 hen l hh) e2_fz)) e2_fz (by decide) co_b161 ex2_246 ck_b161
/-! b162 X10_year -/
def as_b162 : List ev_V := [(2, 83, 0)]
def E_b162 : e2_E := [(2147483648, 2147583648, 0, 0), (2147483648, 2147483656, 1, 0), (2147483648, 2147483688, 2, 0), (2147483648, 2147483688, 3, 0)]
def bn1633 : e2_Q7 := (bn1608, bn1629)
def bn1634 : e2_Q8 := (bn1633, bn1617)
noncomputable def f_b162 : ev_H := (bn1634 : e2_Q8)
noncomputable def q_b162_0 : ev_H := (bn1634 : e2_Q8)
def bn1635 : e2_Q8 := (bn1633, bn1613)
noncomputable def q_b162_1 : ev_H := (bn1635 : e2_Q8)
noncomputable def rs_b162 : e2_Rs := [((0, 4294967294, 0), q_b162_0), ((11, 2147483647, 2147483668), q_b162_1)]
noncomputable def s_b162 : e2_Sm := (246, as_b162, E_b162, f_b162, rs_b162)
noncomputable def S_b162 : List e2_Sm := [s_b1, s_b156]
noncomputable def I_b162 : List e2_In := []
set_option maxRecDepth 1000000 in
theorem ck_b162 : e2_run (e2_cal S_b162 I_b162 4000 0) (e2_fin rs_b162) e2x_246 (fun _ => false) (fun _ _ _ _ _ => false) 4000 (e2_seek e2x_246 0) (e2_al 1 as_b162) [] E_b162 f_b162 = true := by decide +kernel
set_option maxRecDepth 1000000 in
theorem co_b162 : e2_okSB E_b162.length as_b162 f_b162 rs_b162 = true := by decide +kernel
theorem cs_b162 (hen : en_ok) (l : Launch) (hh : e2_hand_b l) : e2_smOk l 63 s_b162 := e2_con0 (H := 62) (n := 0) (C := evd_246) (S := S_b162) (I := I_b162) (fuel := 4000) [] hen ei_246 (e2_fa ((hh _ hm_b1).mono (by decide)) (e2_fa (cs_b156 hen l hh) e2_fz)) e2_fz (by decide) co_b162 ex2_246 ck_b162
/-! b163 X10_year -/
def as_b163 : List ev_V := [(2, 83, 0)]
def E_b163 : e2_E := [(2147483648, 2147583648, 0, 0), (2147483648, 2147483656, 1, 0), (2147483648, 2147483688, 2, 0), (2147483648, 2147483688, 3, 0)]
def bn1636 : e2_Q7 := (bn1553, bn1629)
def bn1637 : e2_Q8 := (bn1636, bn1590)
noncomputable def f_b163 : ev_H := (bn1637 : e2_Q8)
noncomputable def q_b163_0 : ev_H := (bn1637 : e2_Q8)
def bn1638 : e2_Q8 := (bn1636, bn1621)
noncomputable def q_b163_1 : ev_H := (bn1638 : e2_Q8)
noncomputable def rs_b163 : e2_Rs := [((0, 4294967294, 0), q_b163_0), ((11, 2147483647, 2147483668), q_b163_1)]
noncomputable def s_b163 : e2_Sm := (246, as_b163, E_b163, f_b163, rs_b163)
noncomputable def S_b163 : List e2_Sm := [s_b1, s_b158]
noncomputable def I_b163 : List e2_In := []
set_option maxRecDepth 1000000 in
theorem ck_b163 : e2_run (e2_cal S_b163 I_b163 4000 0) (e2_fin rs_b163) e2x_246 (fun _ => false) (fun _ _ _ _ _ => false) 4000 (e2_seek e2x_246 0) (e2_al 1 as_b163) [] E_b163 f_b163 = true := by decide +kernel
set_option maxRecDepth 1000000 in
theorem co_b163 : e2_okSB E_b163.length as_b163 f_b163 rs_b163 = true := by decide +kernel
theorem cs_b163 (hen : en_ok) (l : Launch) (hh : e2_hand_b l) : e2_smOk l 66 s_b163 := e2_con0 (H := 65) (n := 0) (C := evd_246) (S := S_b163) (I := I_b163) (fuel := 4000) [] hen ei_246 (e2_fa ((hh _ hm_b1).mono (by decide)) (e2_fa (cs_b158 hen l hh) e2_fz)) e2_fz (by decide) co_b163 ex2_246 ck_b163
/-! b164 X10_readings -/
def as_b164 : List ev_V := [(2, 83, 0)]
def E_b164 : e2_E := [(2147483648, 2147583648, 0, 0), (2147483648, 2147483656, 1, 0), (2147483648, 2147483688, 2, 0), (2147483648, 2147483688, 3, 0)]
noncomputable def f_b164 : ev_H := (bn1525 : e2_Q8)
noncomputable def q_b164_0 : ev_H := (bn1525 : e2_Q8)
noncomputable def rs_b164 : e2_Rs := [((11, 0, 4294967295), q_b164_0)]
noncomputable def s_b164 : e2_Sm := (249, as_b164, E_b164, f_b164, rs_b164)
noncomputable def S_b164 : List e2_Sm := [s_b124]
noncomputable def I_b164 : List e2_In := [(227, 2, e2x_227), (232, 1, e2x_232)]
set_option maxRecDepth 1000000 in
theorem ck_b164 : e2_run (e2_cal S_b164 I_b164 4000 2) (e2_fin rs_b164) e2x_249 (fun _ => false) (fun _ _ _ _ _ => false) 4000 (e2_seek e2x_249 0) (e2_al 1 as_b164) [] E_b164 f_b164 = true := by decide +kernel
set_option maxRecDepth 1000000 in
theorem co_b164 : e2_okSB E_b164.length as_b164 f_b164 rs_b164 = true := by decide +kernel
theorem cs_b164 (hen : en_ok) (l : Launch) : e2_smOk l 9 s_b164 := e2_con0 (H := 6) (n := 2) (C := evd_249) (S := S_b164) (I := I_b164) (fuel := 4000) [] hen ei_249 (e2_fa (cs_b124 hen l) e2_fz) (e2_fa ein_227 (e2_fa ein_232 e2_fz)) (by decide) co_b164 ex2_249 ck_b164
/-! b165 X10_readings -/
def as_b165 : List ev_V := [(2, 83, 0)]
def E_b165 : e2_E := [(2147483648, 2147583648, 0, 0), (2147483648, 2147483656, 1, 0), (2147483648, 2147483688, 2, 0), (2147483648, 2147483688, 3, 0)]
noncomputable def f_b165 : ev_H := (bn1542 : e2_Q8)
noncomputable def q_b165_0 : ev_H := (bn1542 : e2_Q8)
noncomputable def rs_b165 : e2_Rs := [((11, 0, 4294967295), q_b165_0)]
noncomputable def s_b165 : e2_Sm := (249, as_b165, E_b165, f_b165, rs_b165)
noncomputable def S_b165 : List e2_Sm := [s_b126]
noncomputable def I_b165 : List e2_In := [(227, 2, e2x_227), (232, 1, e2x_232)]
set_option maxRecDepth 1000000 in
theorem ck_b165 : e2_run (e2_cal S_b165 I_b165 4000 2) (e2_fin rs_b165) e2x_249 (fun _ => false) (fun _ _ _ _ _ => false) 4000 (e2_seek e2x_249 0) (e2_al 1 as_b165) [] E_b165 f_b165 = true := by decide +kernel
set_option maxRecDepth 1000000 in
theorem co_b165 : e2_okSB E_b165.length as_b165 f_b165 rs_b165 = true := by decide +kernel
theorem cs_b165 (hen : en_ok) (l : Launch) (hh : e2_hand_b l) : e2_smOk l 66 s_b165 := e2_con0 (H := 63) (n := 2) (C := evd_249) (S := S_b165) (I := I_b165) (fuel := 4000) [] hen ei_249 (e2_fa (cs_b126 hen l hh) e2_fz) (e2_fa ein_227 (e2_fa ein_232 e2_fz)) (by decide) co_b165 ex2_249 ck_b165
/-! b166 X10_readings -/
def as_b166 : List ev_V := [(2, 83, 0)]
def E_b166 : e2_E := [(2147483648, 2147583648, 0, 0), (2147483648, 2147483656, 1, 0), (2147483648, 2147483688, 2, 0), (2147483648, 2147483688, 3, 0)]
noncomputable def f_b166 : ev_H := (bn1550 : e2_Q8)
noncomputable def q_b166_0 : ev_H := (bn1550 : e2_Q8)
noncomputable def rs_b166 : e2_Rs := [((11, 0, 4294967295), q_b166_0)]
noncomputable def s_b166 : e2_Sm := (249, as_b166, E_b166, f_b166, rs_b166)
noncomputable def S_b166 : List e2_Sm := [s_b128]
noncomputable def I_b166 : List e2_In := [(227, 2, e2x_227), (232, 1, e2x_232)]
set_option maxRecDepth 1000000 in
theorem ck_b166 : e2_run (e2_cal S_b166 I_b166 4000 2) (e2_fin rs_b166) e2x_249 (fun _ => false) (fun _ _ _ _ _ => false) 4000 (e2_seek e2x_249 0) (e2_al 1 as_b166) [] E_b166 f_b166 = true := by decide +kernel
set_option maxRecDepth 1000000 in
theorem co_b166 : e2_okSB E_b166.length as_b166 f_b166 rs_b166 = true := by decide +kernel
theorem cs_b166 (hen : en_ok) (l : Launch) : e2_smOk l 9 s_b166 := e2_con0 (H := 6) (n := 2) (C := evd_249) (S := S_b166) (I := I_b166) (fuel := 4000) [] hen ei_249 (e2_fa (cs_b128 hen l) e2_fz) (e2_fa ein_227 (e2_fa ein_232 e2_fz)) (by decide) co_b166 ex2_249 ck_b166
/-! b167 X10_readings -/
def as_b167 : List ev_V := [(2, 83, 0)]
def E_b167 : e2_E := [(2147483648, 2147583648, 0, 0), (2147483648, 2147483656, 1, 0), (2147483648, 2147483688, 2, 0), (2147483648, 2147483688, 3, 0)]
noncomputable def f_b167 : ev_H := (bn1559 : e2_Q8)
noncomputable def q_b167_0 : ev_H := (bn1559 : e2_Q8)
noncomputable def rs_b167 : e2_Rs := [((11, 0, 4294967295), q_b167_0)]
noncomputable def s_b167 : e2_Sm := (249, as_b167, E_b167, f_b167, rs_b167)
noncomputable def S_b167 : List e2_Sm := [s_b130]
noncomputable def I_b167 : List e2_In := [(227, 2, e2x_227), (232, 1, e2x_232)]
set_option maxRecDepth 1000000 in
theorem ck_b167 : e2_run (e2_cal S_b167 I_b167 4000 2) (e2_fin rs_b167) e2x_249 (fun _ => false) (fun _ _ _ _ _ => false) 4000 (e2_seek e2x_249 0) (e2_al 1 as_b167) [] E_b167 f_b167 = true := by decide +kernel
set_option maxRecDepth 1000000 in
theorem co_b167 : e2_okSB E_b167.length as_b167 f_b167 rs_b167 = true := by decide +kernel
theorem cs_b167 (hen : en_ok) (l : Launch) (hh : e2_hand_b l) : e2_smOk l 66 s_b167 := e2_con0 (H := 63) (n := 2) (C := evd_249) (S := S_b167) (I := I_b167) (fuel := 4000) [] hen ei_249 (e2_fa (cs_b130 hen l hh) e2_fz) (e2_fa ein_227 (e2_fa ein_232 e2_fz)) (by decide) co_b167 ex2_249 ck_b167
/-! b168 X10_taken -/
def as_b168 : List ev_V := [(2, 83, 0)]
def E_b168 : e2_E := [(2147483648, 2147583648, 0, 0), (2147483648, 2147483656, 1, 0), (2147483648, 2147483688, 2, 0), (2147483648, 2147483688, 3, 0)]
def bc212 : ev_C := (54, [(0, 20, 0), (11, 0, 4294967295)])
def bn1639 : e2_Q1 := (bc212, bc3)
def bn1640 : e2_Q2 := (bn231, bn1639)
def bn1641 : e2_Q3 := (bn230, bn1640)
def bn1642 : e2_Q4 := (bn227, bn1641)
def bn1643 : e2_Q5 := (bn1642, bn250)
def bn1644 : e2_Q6 := (bn1522, bn1643)
def bn1645 : e2_Q7 := (bn1019, bn1644)
def bn1646 : e2_Q8 := (bn1521, bn1645)
noncomputable def f_b168 : ev_H := (bn1646 : e2_Q8)
noncomputable def q_b168_0 : ev_H := (bn1646 : e2_Q8)
noncomputable def rs_b168 : e2_Rs := [((11, 2147483647, 2147483668), q_b168_0)]
noncomputable def s_b168 : e2_Sm := (251, as_b168, E_b168, f_b168, rs_b168)
noncomputable def S_b168 : List e2_Sm := [s_b124]
noncomputable def I_b168 : List e2_In := []
set_option maxRecDepth 1000000 in
theorem co_b168 : e2_okSB E_b168.length as_b168 f_b168 rs_b168 = true := by decide +kernel
def al_b168_0 : List ev_V := [(2, 83, 0), (11, 2147483647, 2147483668), (1, 4, 4294967296)]
def E_b168_0 : e2_E := [(2147483648, 2147583648, 0, 0), (2147483648, 2147483656, 1, 0), (2147483648, 2147483688, 2, 0), (2147483648, 2147483688, 3, 0), (2147483648, 2147483668, 4, 0)]
noncomputable def h_b168_0 : ev_H := (bn1646 : e2_Q8)
noncomputable def cl_b168_e : List (Nat × e2_S) := [(12, e2_cutL (al_b168_0.set 2 (11, 2147483648, 2147483668)) 4 (E_b168_0.take 4) h_b168_0)]
set_option maxRecDepth 1000000 in
theorem ck_b168_e : e2_run (e2_cal S_b168 I_b168 4000 0) (e2_fin rs_b168) e2x_251 (e2_bpL cl_b168_e) (e2_cutA cl_b168_e) 4000 (e2_seek e2x_251 0) (e2_al 3 as_b168) [] E_b168 f_b168 = true := by decide +kernel
noncomputable def cl_b168_0 : List (Nat × e2_S) := [(12, e2_cutL (al_b168_0.set 2 (13, 12, 2147483668)) 4 (E_b168_0.take 4) h_b168_0)]
set_option maxRecDepth 1000000 in
theorem ck_b168_0 : e2_runM (e2_cal S_b168 I_b168 4000 0) (e2_fin rs_b168) e2x_251 (e2_bpL cl_b168_0) (e2_cutA cl_b168_0) 4000 (e2_seek e2x_251 12) al_b168_0 [] E_b168_0 h_b168_0 = true := by decide +kernel
set_option maxRecDepth 1000000 in
theorem ci_b168_0 : e2_idl 4 (al_b168_0.set 2 (9, 0, 0)) = true := by decide +kernel
set_option maxRecDepth 1000000 in
theorem cj_b168_0 : e2_idh 4 8 h_b168_0 = true := by decide +kernel
theorem cs_b168 (hen : en_ok) (l : Launch) : e2_smOk l 7 s_b168 := by
  refine e2_conG (H := 6) (n := 0) (C := evd_251) (S := S_b168) (I := I_b168) (fuel := 4000) hen ei_251 (e2_fa (cs_b124 hen l) e2_fz) e2_fz (by decide) co_b168 fun M d _ hC hcall p e R s m args below meth c Q D cA A ads r0 ha hl0 => ?_
  have L_0 : e2_gdM M p l e R s m args below meth c Q D cA A ads r0 12 al_b168_0 [] E_b168_0 h_b168_0 := by
    refine e2_indL (u := 4) (j := 2) (lo := 2147483648) (hi := 2147483668) (b := 4) (dd := 0) hl0 (by decide) rfl rfl (Or.inr ⟨rfl, rfl⟩) rfl ci_b168_0 cj_b168_0 ?_
    intro r_0 k_0 hk_0 hp_0 hs_0 hn_0
    have hl_0 : r_0.length ≤ 5 := hs_0.len rfl
    have ha_0 := ha.ext hp_0
    exact e2_fromM hen ha_0 hcall (e2_cutA_ok (e2_fa (fun al st E h hc => hn_0 al st E h hc) e2_fz)) (hC []) (X := e2x_251) ex2_251 12 ck_b168_0
  have EN_0 := e2_entL (u := 4) (j := 2) (lo := 2147483648) (hi := 2147483668) hl0 rfl rfl rfl ci_b168_0 cj_b168_0 L_0
  exact e2_from hen ha hcall (e2_cutA_ok (e2_fa (fun al st E h hc => EN_0 al st E h hc) e2_fz)) (hC []) (X := e2x_251) ex2_251 0 ck_b168_e
/-! b169 X10_taken -/
def as_b169 : List ev_V := [(2, 83, 0)]
def E_b169 : e2_E := [(2147483648, 2147583648, 0, 0), (2147483648, 2147483656, 1, 0), (2147483648, 2147483688, 2, 0), (2147483648, 2147483688, 3, 0)]
def bn1647 : e2_Q5 := (bn1642, bn311)
def bn1648 : e2_Q6 := (bn1539, bn1647)
def bn1649 : e2_Q7 := (bn1537, bn1648)
def bn1650 : e2_Q8 := (bn1534, bn1649)
noncomputable def f_b169 : ev_H := (bn1650 : e2_Q8)
noncomputable def q_b169_0 : ev_H := (bn1650 : e2_Q8)
noncomputable def rs_b169 : e2_Rs := [((11, 2147483647, 2147483668), q_b169_0)]
noncomputable def s_b169 : e2_Sm := (251, as_b169, E_b169, f_b169, rs_b169)
noncomputable def S_b169 : List e2_Sm := [s_b126]
noncomputable def I_b169 : List e2_In := []
set_option maxRecDepth 1000000 in
theorem co_b169 : e2_okSB E_b169.length as_b169 f_b169 rs_b169 = true := by decide +kernel
def al_b169_0 : List ev_V := [(2, 83, 0), (11, 2147483647, 2147483668), (1, 4, 4294967296)]
def E_b169_0 : e2_E := [(2147483648, 2147583648, 0, 0), (2147483648, 2147483656, 1, 0), (2147483648, 2147483688, 2, 0), (2147483648, 2147483688, 3, 0), (2147483648, 2147483668, 4, 0)]
noncomputable def h_b169_0 : ev_H := (bn1650 : e2_Q8)
noncomputable def cl_b169_e : List (Nat × e2_S) := [(12, e2_cutL (al_b169_0.set 2 (11, 2147483648, 2147483668)) 4 (E_b169_0.take 4) h_b169_0)]
set_option maxRecDepth 1000000 in
theorem ck_b169_e : e2_run (e2_cal S_b169 I_b169 4000 0) (e2_fin rs_b169) e2x_251 (e2_bpL cl_b169_e) (e2_cutA cl_b169_e) 4000 (e2_seek e2x_251 0) (e2_al 3 as_b169) [] E_b169 f_b169 = true := by decide +kernel
noncomputable def cl_b169_0 : List (Nat × e2_S) := [(12, e2_cutL (al_b169_0.set 2 (13, 12, 2147483668)) 4 (E_b169_0.take 4) h_b169_0)]
set_option maxRecDepth 1000000 in
theorem ck_b169_0 : e2_runM (e2_cal S_b169 I_b169 4000 0) (e2_fin rs_b169) e2x_251 (e2_bpL cl_b169_0) (e2_cutA cl_b169_0) 4000 (e2_seek e2x_251 12) al_b169_0 [] E_b169_0 h_b169_0 = true := by decide +kernel
set_option maxRecDepth 1000000 in
theorem ci_b169_0 : e2_idl 4 (al_b169_0.set 2 (9, 0, 0)) = true := by decide +kernel
set_option maxRecDepth 1000000 in
theorem cj_b169_0 : e2_idh 4 8 h_b169_0 = true := by decide +kernel
theorem cs_b169 (hen : en_ok) (l : Launch) (hh : e2_hand_b l) : e2_smOk l 64 s_b169 := by
  refine e2_conG (H := 63) (n := 0) (C := evd_251) (S := S_b169) (I := I_b169) (fuel := 4000) hen ei_251 (e2_fa (cs_b126 hen l hh) e2_fz) e2_fz (by decide) co_b169 fun M d _ hC hcall p e R s m args below meth c Q D cA A ads r0 ha hl0 => ?_
  have L_0 : e2_gdM M p l e R s m args below meth c Q D cA A ads r0 12 al_b169_0 [] E_b169_0 h_b169_0 := by
    refine e2_indL (u := 4) (j := 2) (lo := 2147483648) (hi := 2147483668) (b := 4) (dd := 0) hl0 (by decide) rfl rfl (Or.inr ⟨rfl, rfl⟩) rfl ci_b169_0 cj_b169_0 ?_
    intro r_0 k_0 hk_0 hp_0 hs_0 hn_0
    have hl_0 : r_0.length ≤ 5 := hs_0.len rfl
    have ha_0 := ha.ext hp_0
    exact e2_fromM hen ha_0 hcall (e2_cutA_ok (e2_fa (fun al st E h hc => hn_0 al st E h hc) e2_fz)) (hC []) (X := e2x_251) ex2_251 12 ck_b169_0
  have EN_0 := e2_entL (u := 4) (j := 2) (lo := 2147483648) (hi := 2147483668) hl0 rfl rfl rfl ci_b169_0 cj_b169_0 L_0
  exact e2_from hen ha hcall (e2_cutA_ok (e2_fa (fun al st E h hc => EN_0 al st E h hc) e2_fz)) (hC []) (X := e2x_251) ex2_251 0 ck_b169_e
/-! b170 X10_taken -/
def as_b170 : List ev_V := [(2, 83, 0)]
def E_b170 : e2_E := [(2147483648, 2147583648, 0, 0), (2147483648, 2147483656, 1, 0), (2147483648, 2147483688, 2, 0), (2147483648, 2147483688, 3, 0)]
def bn1651 : e2_Q8 := (bn1549, bn1645)
noncomputable def f_b170 : ev_H := (bn1651 : e2_Q8)
noncomputable def q_b170_0 : ev_H := (bn1651 : e2_Q8)
noncomputable def rs_b170 : e2_Rs := [((11, 2147483647, 2147483668), q_b170_0)]
noncomputable def s_b170 : e2_Sm := (251, as_b170, E_b170, f_b170, rs_b170)
noncomputable def S_b170 : List e2_Sm := [s_b128]
noncomputable def I_b170 : List e2_In := []
set_option maxRecDepth 1000000 in
theorem co_b170 : e2_okSB E_b170.length as_b170 f_b170 rs_b170 = true := by decide +kernel
def al_b170_0 : List ev_V := [(2, 83, 0), (11, 2147483647, 2147483668), (1, 4, 4294967296)]
def E_b170_0 : e2_E := [(2147483648, 2147583648, 0, 0), (2147483648, 2147483656, 1, 0), (2147483648, 2147483688, 2, 0), (2147483648, 2147483688, 3, 0), (2147483648, 2147483668, 4, 0)]
noncomputable def h_b170_0 : ev_H := (bn1651 : e2_Q8)
noncomputable def cl_b170_e : List (Nat × e2_S) := [(12, e2_cutL (al_b170_0.set 2 (11, 2147483648, 2147483668)) 4 (E_b170_0.take 4) h_b170_0)]
set_option maxRecDepth 1000000 in
theorem ck_b170_e : e2_run (e2_cal S_b170 I_b170 4000 0) (e2_fin rs_b170) e2x_251 (e2_bpL cl_b170_e) (e2_cutA cl_b170_e) 4000 (e2_seek e2x_251 0) (e2_al 3 as_b170) [] E_b170 f_b170 = true := by decide +kernel
noncomputable def cl_b170_0 : List (Nat × e2_S) := [(12, e2_cutL (al_b170_0.set 2 (13, 12, 2147483668)) 4 (E_b170_0.take 4) h_b170_0)]
set_option maxRecDepth 1000000 in
theorem ck_b170_0 : e2_runM (e2_cal S_b170 I_b170 4000 0) (e2_fin rs_b170) e2x_251 (e2_bpL cl_b170_0) (e2_cutA cl_b170_0) 4000 (e2_seek e2x_251 12) al_b170_0 [] E_b170_0 h_b170_0 = true := by decide +kernel
set_option maxRecDepth 1000000 in
theorem ci_b170_0 : e2_idl 4 (al_b170_0.set 2 (9, 0, 0)) = true := by decide +kernel
set_option maxRecDepth 1000000 in
theorem cj_b170_0 : e2_idh 4 8 h_b170_0 = true := by decide +kernel
theorem cs_b170 (hen : en_ok) (l : Launch) : e2_smOk l 7 s_b170 := by
  refine e2_conG (H := 6) (n := 0) (C := evd_251) (S := S_b170) (I := I_b170) (fuel := 4000) hen ei_251 (e2_fa (cs_b128 hen l) e2_fz) e2_fz (by decide) co_b170 fun M d _ hC hcall p e R s m args below meth c Q D cA A ads r0 ha hl0 => ?_
  have L_0 : e2_gdM M p l e R s m args below meth c Q D cA A ads r0 12 al_b170_0 [] E_b170_0 h_b170_0 := by
    refine e2_indL (u := 4) (j := 2) (lo := 2147483648) (hi := 2147483668) (b := 4) (dd := 0) hl0 (by decide) rfl rfl (Or.inr ⟨rfl, rfl⟩) rfl ci_b170_0 cj_b170_0 ?_
    intro r_0 k_0 hk_0 hp_0 hs_0 hn_0
    have hl_0 : r_0.length ≤ 5 := hs_0.len rfl
    have ha_0 := ha.ext hp_0
    exact e2_fromM hen ha_0 hcall (e2_cutA_ok (e2_fa (fun al st E h hc => hn_0 al st E h hc) e2_fz)) (hC []) (X := e2x_251) ex2_251 12 ck_b170_0
  have EN_0 := e2_entL (u := 4) (j := 2) (lo := 2147483648) (hi := 2147483668) hl0 rfl rfl rfl ci_b170_0 cj_b170_0 L_0
  exact e2_from hen ha hcall (e2_cutA_ok (e2_fa (fun al st E h hc => EN_0 al st E h hc) e2_fz)) (hC []) (X := e2x_251) ex2_251 0 ck_b170_e
/-! b171 X10_taken -/
def as_b171 : List ev_V := [(2, 83, 0)]
def E_b171 : e2_E := [(2147483648, 2147583648, 0, 0), (2147483648, 2147483656, 1, 0), (2147483648, 2147483688, 2, 0), (2147483648, 2147483688, 3, 0)]
def bn1652 : e2_Q6 := (bn1556, bn1647)
def bn1653 : e2_Q7 := (bn1537, bn1652)
def bn1654 : e2_Q8 := (bn1554, bn1653)
noncomputable def f_b171 : ev_H := (bn1654 : e2_Q8)
noncomputable def q_b171_0 : ev_H := (bn1654 : e2_Q8)
noncomputable def rs_b171 : e2_Rs := [((11, 2147483647, 2147483668), q_b171_0)]
noncomputable def s_b171 : e2_Sm := (251, as_b171, E_b171, f_b171, rs_b171)
noncomputable def S_b171 : List e2_Sm := [s_b130]
noncomputable def I_b171 : List e2_In := []
set_option maxRecDepth 1000000 in
theorem co_b171 : e2_okSB E_b171.length as_b171 f_b171 rs_b171 = true := by decide +kernel
def al_b171_0 : List ev_V := [(2, 83, 0), (11, 2147483647, 2147483668), (1, 4, 4294967296)]
def E_b171_0 : e2_E := [(2147483648, 2147583648, 0, 0), (2147483648, 2147483656, 1, 0), (2147483648, 2147483688, 2, 0), (2147483648, 2147483688, 3, 0), (2147483648, 2147483668, 4, 0)]
noncomputable def h_b171_0 : ev_H := (bn1654 : e2_Q8)
noncomputable def cl_b171_e : List (Nat × e2_S) := [(12, e2_cutL (al_b171_0.set 2 (11, 2147483648, 2147483668)) 4 (E_b171_0.take 4) h_b171_0)]
set_option maxRecDepth 1000000 in
theorem ck_b171_e : e2_run (e2_cal S_b171 I_b171 4000 0) (e2_fin rs_b171) e2x_251 (e2_bpL cl_b171_e) (e2_cutA cl_b171_e) 4000 (e2_seek e2x_251 0) (e2_al 3 as_b171) [] E_b171 f_b171 = true := by decide +kernel
noncomputable def cl_b171_0 : List (Nat × e2_S) := [(12, e2_cutL (al_b171_0.set 2 (13, 12, 2147483668)) 4 (E_b171_0.take 4) h_b171_0)]
set_option maxRecDepth 1000000 in
theorem ck_b171_0 : e2_runM (e2_cal S_b171 I_b171 4000 0) (e2_fin rs_b171) e2x_251 (e2_bpL cl_b171_0) (e2_cutA cl_b171_0) 4000 (e2_seek e2x_251 12) al_b171_0 [] E_b171_0 h_b171_0 = true := by decide +kernel
set_option maxRecDepth 1000000 in
theorem ci_b171_0 : e2_idl 4 (al_b171_0.set 2 (9, 0, 0)) = true := by decide +kernel
set_option maxRecDepth 1000000 in
theorem cj_b171_0 : e2_idh 4 8 h_b171_0 = true := by decide +kernel
theorem cs_b171 (hen : en_ok) (l : Launch) (hh : e2_hand_b l) : e2_smOk l 64 s_b171 := by
  refine e2_conG (H := 63) (n := 0) (C := evd_251) (S := S_b171) (I := I_b171) (fuel := 4000) hen ei_251 (e2_fa (cs_b130 hen l hh) e2_fz) e2_fz (by decide) co_b171 fun M d _ hC hcall p e R s m args below meth c Q D cA A ads r0 ha hl0 => ?_
  have L_0 : e2_gdM M p l e R s m args below meth c Q D cA A ads r0 12 al_b171_0 [] E_b171_0 h_b171_0 := by
    refine e2_indL (u := 4) (j := 2) (lo := 2147483648) (hi := 2147483668) (b := 4) (dd := 0) hl0 (by decide) rfl rfl (Or.inr ⟨rfl, rfl⟩) rfl ci_b171_0 cj_b171_0 ?_
    intro r_0 k_0 hk_0 hp_0 hs_0 hn_0
    have hl_0 : r_0.length ≤ 5 := hs_0.len rfl
    have ha_0 := ha.ext hp_0
    exact e2_fromM hen ha_0 hcall (e2_cutA_ok (e2_fa (fun al st E h hc => hn_0 al st E h hc) e2_fz)) (hC []) (X := e2x_251) ex2_251 12 ck_b171_0
  have EN_0 := e2_entL (u := 4) (j := 2) (lo := 2147483648) (hi := 2147483668) hl0 rfl rfl rfl ci_b171_0 cj_b171_0 L_0
  exact e2_from hen ha hcall (e2_cutA_ok (e2_fa (fun al st E h hc => EN_0 al st E h hc) e2_fz)) (hC []) (X := e2x_251) ex2_251 0 ck_b171_e
/-! b172 X10_weight -/
def as_b172 : List ev_V := [(2, 83, 0)]
def E_b172 : e2_E := [(2147483648, 2147583648, 0, 0), (2147483648, 2147483656, 1, 0), (2147483648, 2147483688, 2, 0), (2147483648, 2147483688, 3, 0)]
noncomputable def f_b172 : ev_H := (bn1525 : e2_Q8)
noncomputable def q_b172_0 : ev_H := (bn1525 : e2_Q8)
noncomputable def rs_b172 : e2_Rs := [((11, 0, 4294967295), q_b172_0)]
noncomputable def s_b172 : e2_Sm := (252, as_b172, E_b172, f_b172, rs_b172)
noncomputable def S_b172 : List e2_Sm := [s_b124]
noncomputable def I_b172 : List e2_In := [(227, 2, e2x_227)]
set_option maxRecDepth 1000000 in
theorem ck_b172 : e2_run (e2_cal S_b172 I_b172 4000 1) (e2_fin rs_b172) e2x_252 (fun _ => false) (fun _ _ _ _ _ => false) 4000 (e2_seek e2x_252 0) (e2_al 1 as_b172) [] E_b172 f_b172 = true := by decide +kernel
set_option maxRecDepth 1000000 in
theorem co_b172 : e2_okSB E_b172.length as_b172 f_b172 rs_b172 = true := by decide +kernel
theorem cs_b172 (hen : en_ok) (l : Launch) : e2_smOk l 8 s_b172 := e2_con0 (H := 6) (n := 1) (C := evd_252) (S := S_b172) (I := I_b172) (fuel := 4000) [] hen ei_252 (e2_fa (cs_b124 hen l) e2_fz) (e2_fa ein_227 e2_fz) (by decide) co_b172 ex2_252 ck_b172
