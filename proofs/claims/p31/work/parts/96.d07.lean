/-! CONTRACTS d, printed by a program -/
/-! d153 X10_goYear -/
def as_d153 : List ev_V := [(2, 83, 0)]
def E_d153 : e2_E := [(2147483648, 2147583648, 0, 0), (2147483648, 2147483656, 1, 0), (2147483648, 2147483688, 2, 0), (2147483648, 2147483688, 3, 0)]
noncomputable def f_d153 : ev_H := (dn1582 : e2_Q8)
noncomputable def q_d153_0 : ev_H := (dn1582 : e2_Q8)
noncomputable def rs_d153 : e2_Rs := [((11, 2147483647, 2147483668), q_d153_0)]
noncomputable def s_d153 : e2_Sm := (245, as_d153, E_d153, f_d153, rs_d153)
noncomputable def S_d153 : List e2_Sm := [s_d124]
noncomputable def I_d153 : List e2_In := [(213, 2, e2x_213), (216, 1, e2x_216)]
set_option maxRecDepth 1000000 in
theorem co_d153 : e2_okSB E_d153.length as_d153 f_d153 rs_d153 = true := by decide +kernel
def al_d153_0 : List ev_V := [(2, 83, 0), (11, 2147483647, 2147483668), (1, 4, 4294967296), (9, 0, 0)]
def E_d153_0 : e2_E := [(2147483648, 2147583648, 0, 0), (2147483648, 2147483656, 1, 0), (2147483648, 2147483688, 2, 0), (2147483648, 2147483688, 3, 0), (2147483648, 2147483668, 4, 0)]
noncomputable def h_d153_0 : ev_H := (dn1582 : e2_Q8)
def al_d153_1 : List ev_V := [(2, 83, 0), (11, 2147483647, 2147483668), (1, 4, 4294967296), (9, 0, 0)]
def E_d153_1 : e2_E := [(2147483648, 2147583648, 0, 0), (2147483648, 2147483656, 1, 0), (2147483648, 2147483688, 2, 0), (2147483648, 2147483688, 3, 0), (2147483648, 2147483668, 4, 0)]
noncomputable def h_d153_1 : ev_H := (dn1582 : e2_Q8)
noncomputable def cl_d153_e : List (Nat × e2_S) := [(7, e2_cutL (al_d153_1.set 2 (11, 2147483648, 2147483668)) 4 (E_d153_1.take 4) h_d153_1)]
set_option maxRecDepth 1000000 in
theorem ck_d153_e : e2_run (e2_cal S_d153 I_d153 4000 1) (e2_fin rs_d153) e2x_245 (e2_bpL cl_d153_e) (e2_cutA cl_d153_e) 4000 (e2_seek e2x_245 0) (e2_al 4 as_d153) [] E_d153 f_d153 = true := by decide +kernel
noncomputable def cl_d153_0 : List (Nat × e2_S) := [(174, e2_cutL (al_d153_0.set 2 (13, 12, 2147483668)) 4 (E_d153_0.take 4) h_d153_0)]
set_option maxRecDepth 1000000 in
theorem ck_d153_0 : e2_runM (e2_cal S_d153 I_d153 4000 1) (e2_fin rs_d153) e2x_245 (e2_bpL cl_d153_0) (e2_cutA cl_d153_0) 4000 (e2_seek e2x_245 174) al_d153_0 [] E_d153_0 h_d153_0 = true := by decide +kernel
set_option maxRecDepth 1000000 in
theorem ci_d153_0 : e2_idl 4 (al_d153_0.set 2 (9, 0, 0)) = true := by decide +kernel
set_option maxRecDepth 1000000 in
theorem cj_d153_0 : e2_idh 4 8 h_d153_0 = true := by decide +kernel
noncomputable def cl_d153_1 : List (Nat × e2_S) := [(174, e2_cutL (al_d153_0.set 2 (11, 2147483648, 2147483668)) 4 (E_d153_0.take 4) h_d153_0),
  (7, e2_cutL (al_d153_1.set 2 (13, 12, 2147483668)) 4 (E_d153_1.take 4) h_d153_1)]
set_option maxRecDepth 1000000 in
theorem ck_d153_1 : e2_runM (e2_cal S_d153 I_d153 4000 1) (e2_fin rs_d153) e2x_245 (e2_bpL cl_d153_1) (e2_cutA cl_d153_1) 4000 (e2_seek e2x_245 7) al_d153_1 [] E_d153_1 h_d153_1 = true := by decide +kernel
set_option maxRecDepth 1000000 in
theorem ci_d153_1 : e2_idl 4 (al_d153_1.set 2 (9, 0, 0)) = true := by decide +kernel
set_option maxRecDepth 1000000 in
theorem cj_d153_1 : e2_idh 4 8 h_d153_1 = true := by decide +kernel
theorem cs_d153 (hen : en_ok) (l : Launch) : e2_smOk l 8 s_d153 := by
  refine e2_conG (H := 6) (n := 1) (C := evd_245) (S := S_d153) (I := I_d153) (fuel := 4000) hen ei_245 (e2_fa (cs_d124 hen l) e2_fz) (e2_fa ein_213 (e2_fa ein_216 e2_fz)) (by decide) co_d153 fun M d _ hC hcall p e R s m args below meth c Q D cA A ads r0 ha hl0 => ?_
  have L_0 : e2_gdM M p l e R s m args below meth c Q D cA A ads r0 174 al_d153_0 [] E_d153_0 h_d153_0 := by
    refine e2_indL (u := 4) (j := 2) (lo := 2147483648) (hi := 2147483668) (b := 4) (dd := 0) hl0 (by decide) rfl rfl (Or.inr ⟨rfl, rfl⟩) rfl ci_d153_0 cj_d153_0 ?_
    intro r_0 k_0 hk_0 hp_0 hs_0 hn_0
    have hl_0 : r_0.length ≤ 5 := hs_0.len rfl
    have ha_0 := ha.ext hp_0
    exact e2_fromM hen ha_0 hcall (e2_cutA_ok (e2_fa (fun al st E h hc => hn_0 al st E h hc) e2_fz)) (hC []) (X := e2x_245) ex2_245 174 ck_d153_0
  have EN_0 := e2_entL (u := 4) (j := 2) (lo := 2147483648) (hi := 2147483668) hl0 rfl rfl rfl ci_d153_0 cj_d153_0 L_0
  have L_1 : e2_gdM M p l e R s m args below meth c Q D cA A ads r0 7 al_d153_1 [] E_d153_1 h_d153_1 := by
    refine e2_indL (u := 4) (j := 2) (lo := 2147483648) (hi := 2147483668) (b := 4) (dd := 0) hl0 (by decide) rfl rfl (Or.inr ⟨rfl, rfl⟩) rfl ci_d153_1 cj_d153_1 ?_
    intro r_1 k_1 hk_1 hp_1 hs_1 hn_1
    have hl_1 : r_1.length ≤ 5 := hs_1.len rfl
    have ha_1 := ha.ext hp_1
    exact e2_fromM hen ha_1 hcall (e2_cutA_ok (e2_fa (fun al st E h hc => (EN_0 al st E h hc).ext hp_1) (e2_fa (fun al st E h hc => hn_1 al st E h hc) e2_fz))) (hC []) (X := e2x_245) ex2_245 7 ck_d153_1
  have EN_1 := e2_entL (u := 4) (j := 2) (lo := 2147483648) (hi := 2147483668) hl0 rfl rfl rfl ci_d153_1 cj_d153_1 L_1
  exact e2_from hen ha hcall (e2_cutA_ok (e2_fa (fun al st E h hc => EN_1 al st E h hc) e2_fz)) (hC []) (X := e2x_245) ex2_245 0 ck_d153_e
/-! d154 X10_goYear -/
def as_d154 : List ev_V := [(2, 83, 0)]
def E_d154 : e2_E := [(2147483648, 2147583648, 0, 0), (2147483648, 2147483656, 1, 0), (2147483648, 2147483688, 2, 0), (2147483648, 2147483688, 3, 0)]
def dn1604 : e2_Q5 := (dn1599, dn1538)
def dn1605 : e2_Q6 := (dn1604, dn312)
def dn1606 : e2_Q7 := (dn1537, dn1605)
def dn1607 : e2_Q8 := (dn1534, dn1606)
noncomputable def f_d154 : ev_H := (dn1607 : e2_Q8)
noncomputable def q_d154_0 : ev_H := (dn1607 : e2_Q8)
noncomputable def rs_d154 : e2_Rs := [((11, 2147483647, 2147483668), q_d154_0)]
noncomputable def s_d154 : e2_Sm := (245, as_d154, E_d154, f_d154, rs_d154)
noncomputable def S_d154 : List e2_Sm := [s_d127]
noncomputable def I_d154 : List e2_In := [(213, 2, e2x_213), (216, 1, e2x_216)]
set_option maxRecDepth 1000000 in
theorem co_d154 : e2_okSB E_d154.length as_d154 f_d154 rs_d154 = true := by decide +kernel
def al_d154_0 : List ev_V := [(2, 83, 0), (11, 2147483647, 2147483668), (1, 4, 4294967296), (9, 0, 0)]
def E_d154_0 : e2_E := [(2147483648, 2147583648, 0, 0), (2147483648, 2147483656, 1, 0), (2147483648, 2147483688, 2, 0), (2147483648, 2147483688, 3, 0), (2147483648, 2147483668, 4, 0)]
noncomputable def h_d154_0 : ev_H := (dn1607 : e2_Q8)
def al_d154_1 : List ev_V := [(2, 83, 0), (11, 2147483647, 2147483668), (1, 4, 4294967296), (9, 0, 0)]
def E_d154_1 : e2_E := [(2147483648, 2147583648, 0, 0), (2147483648, 2147483656, 1, 0), (2147483648, 2147483688, 2, 0), (2147483648, 2147483688, 3, 0), (2147483648, 2147483668, 4, 0)]
noncomputable def h_d154_1 : ev_H := (dn1607 : e2_Q8)
noncomputable def cl_d154_e : List (Nat × e2_S) := [(7, e2_cutL (al_d154_1.set 2 (11, 2147483648, 2147483668)) 4 (E_d154_1.take 4) h_d154_1)]
set_option maxRecDepth 1000000 in
theorem ck_d154_e : e2_run (e2_cal S_d154 I_d154 4000 1) (e2_fin rs_d154) e2x_245 (e2_bpL cl_d154_e) (e2_cutA cl_d154_e) 4000 (e2_seek e2x_245 0) (e2_al 4 as_d154) [] E_d154 f_d154 = true := by decide +kernel
noncomputable def cl_d154_0 : List (Nat × e2_S) := [(174, e2_cutL (al_d154_0.set 2 (13, 12, 2147483668)) 4 (E_d154_0.take 4) h_d154_0)]
set_option maxRecDepth 1000000 in
theorem ck_d154_0 : e2_runM (e2_cal S_d154 I_d154 4000 1) (e2_fin rs_d154) e2x_245 (e2_bpL cl_d154_0) (e2_cutA cl_d154_0) 4000 (e2_seek e2x_245 174) al_d154_0 [] E_d154_0 h_d154_0 = true := by decide +kernel
set_option maxRecDepth 1000000 in
theorem ci_d154_0 : e2_idl 4 (al_d154_0.set 2 (9, 0, 0)) = true := by decide +kernel
set_option maxRecDepth 1000000 in
theorem cj_d154_0 : e2_idh 4 8 h_d154_0 = true := by decide +kernel
noncomputable def cl_d154_1 : List (Nat × e2_S) := [(174, e2_cutL (al_d154_0.set 2 (11, 2147483648, 2147483668)) 4 (E_d154_0.take 4) h_d154_0),
  (7, e2_cutL (al_d154_1.set 2 (13, 12, 2147483668)) 4 (E_d154_1.take 4) h_d154_1)]
set_option maxRecDepth 1000000 in
theorem ck_d154_1 : e2_runM (e2_cal S_d154 I_d154 4000 1) (e2_fin rs_d154) e2x_245 (e2_bpL cl_d154_1) (e2_cutA cl_d154_1) 4000 (e2_seek e2x_245 7) al_d154_1 [] E_d154_1 h_d154_1 = true := by decide +kernel
set_option maxRecDepth 1000000 in
theorem ci_d154_1 : e2_idl 4 (al_d154_1.set 2 (9, 0, 0)) = true := by decide +kernel
set_option maxRecDepth 1000000 in
theorem cj_d154_1 : e2_idh 4 8 h_d154_1 = true := by decide +kernel
theorem cs_d154 (hen : en_ok) (l : Launch) (hh : e2_hand_d l) : e2_smOk l 65 s_d154 := by
  refine e2_conG (H := 63) (n := 1) (C := evd_245) (S := S_d154) (I := I_d154) (fuel := 4000) hen ei_245 (e2_fa (cs_d127 hen l hh) e2_fz) (e2_fa ein_213 (e2_fa ein_216 e2_fz)) (by decide) co_d154 fun M d _ hC hcall p e R s m args below meth c Q D cA A ads r0 ha hl0 => ?_
  have L_0 : e2_gdM M p l e R s m args below meth c Q D cA A ads r0 174 al_d154_0 [] E_d154_0 h_d154_0 := by
    refine e2_indL (u := 4) (j := 2) (lo := 2147483648) (hi := 2147483668) (b := 4) (dd := 0) hl0 (by decide) rfl rfl (Or.inr ⟨rfl, rfl⟩) rfl ci_d154_0 cj_d154_0 ?_
    intro r_0 k_0 hk_0 hp_0 hs_0 hn_0
    have hl_0 : r_0.length ≤ 5 := hs_0.len rfl
    have ha_0 := ha.ext hp_0
    exact e2_fromM hen ha_0 hcall (e2_cutA_ok (e2_fa (fun al st E h hc => hn_0 al st E h hc) e2_fz)) (hC []) (X := e2x_245) ex2_245 174 ck_d154_0
  have EN_0 := e2_entL (u := 4) (j := 2) (lo := 2147483648) (hi := 2147483668) hl0 rfl rfl rfl ci_d154_0 cj_d154_0 L_0
  have L_1 : e2_gdM M p l e R s m args below meth c Q D cA A ads r0 7 al_d154_1 [] E_d154_1 h_d154_1 := by
    refine e2_indL (u := 4) (j := 2) (lo := 2147483648) (hi := 2147483668) (b := 4) (dd := 0) hl0 (by decide) rfl rfl (Or.inr ⟨rfl, rfl⟩) rfl ci_d154_1 cj_d154_1 ?_
    intro r_1 k_1 hk_1 hp_1 hs_1 hn_1
    have hl_1 : r_1.length ≤ 5 := hs_1.len rfl
    have ha_1 := ha.ext hp_1
    exact e2_fromM hen ha_1 hcall (e2_cutA_ok (e2_fa (fun al st E h hc => (EN_0 al st E h hc).ext hp_1) (e2_fa (fun al st E h hc => hn_1 al st E h hc) e2_fz))) (hC []) (X := e2x_245) ex2_245 7 ck_d154_1
  have EN_1 := e2_entL (u := 4) (j := 2) (lo := 2147483648) (hi := 2147483668) hl0 rfl rfl rfl ci_d154_1 cj_d154_1 L_1
  exact e2_from hen ha hcall (e2_cutA_ok (e2_fa (fun al st E h hc => EN_1 al st E h hc) e2_fz)) (hC []) (X := e2x_245) ex2_245 0 ck_d154_e
/-! d155 X10_goYear -/
def as_d155 : List ev_V := [(2, 83, 0)]
def E_d155 : e2_E := [(2147483648, 2147583648, 0, 0), (2147483648, 2147483656, 1, 0), (2147483648, 2147483688, 2, 0), (2147483648, 2147483688, 3, 0)]
noncomputable def f_d155 : ev_H := (dn1586 : e2_Q8)
noncomputable def q_d155_0 : ev_H := (dn1586 : e2_Q8)
noncomputable def rs_d155 : e2_Rs := [((11, 2147483647, 2147483668), q_d155_0)]
noncomputable def s_d155 : e2_Sm := (245, as_d155, E_d155, f_d155, rs_d155)
noncomputable def S_d155 : List e2_Sm := [s_d126]
noncomputable def I_d155 : List e2_In := [(213, 2, e2x_213), (216, 1, e2x_216)]
set_option maxRecDepth 1000000 in
theorem co_d155 : e2_okSB E_d155.length as_d155 f_d155 rs_d155 = true := by decide +kernel
def al_d155_0 : List ev_V := [(2, 83, 0), (11, 2147483647, 2147483668), (1, 4, 4294967296), (9, 0, 0)]
def E_d155_0 : e2_E := [(2147483648, 2147583648, 0, 0), (2147483648, 2147483656, 1, 0), (2147483648, 2147483688, 2, 0), (2147483648, 2147483688, 3, 0), (2147483648, 2147483668, 4, 0)]
noncomputable def h_d155_0 : ev_H := (dn1586 : e2_Q8)
def al_d155_1 : List ev_V := [(2, 83, 0), (11, 2147483647, 2147483668), (1, 4, 4294967296), (9, 0, 0)]
def E_d155_1 : e2_E := [(2147483648, 2147583648, 0, 0), (2147483648, 2147483656, 1, 0), (2147483648, 2147483688, 2, 0), (2147483648, 2147483688, 3, 0), (2147483648, 2147483668, 4, 0)]
noncomputable def h_d155_1 : ev_H := (dn1586 : e2_Q8)
noncomputable def cl_d155_e : List (Nat × e2_S) := [(7, e2_cutL (al_d155_1.set 2 (11, 2147483648, 2147483668)) 4 (E_d155_1.take 4) h_d155_1)]
set_option maxRecDepth 1000000 in
theorem ck_d155_e : e2_run (e2_cal S_d155 I_d155 4000 1) (e2_fin rs_d155) e2x_245 (e2_bpL cl_d155_e) (e2_cutA cl_d155_e) 4000 (e2_seek e2x_245 0) (e2_al 4 as_d155) [] E_d155 f_d155 = true := by decide +kernel
noncomputable def cl_d155_0 : List (Nat × e2_S) := [(174, e2_cutL (al_d155_0.set 2 (13, 12, 2147483668)) 4 (E_d155_0.take 4) h_d155_0)]
set_option maxRecDepth 1000000 in
theorem ck_d155_0 : e2_runM (e2_cal S_d155 I_d155 4000 1) (e2_fin rs_d155) e2x_245 (e2_bpL cl_d155_0) (e2_cutA cl_d155_0) 4000 (e2_seek e2x_245 174) al_d155_0 [] E_d155_0 h_d155_0 = true := by decide +kernel
set_option maxRecDepth 1000000 in
theorem ci_d155_0 : e2_idl 4 (al_d155_0.set 2 (9, 0, 0)) = true := by decide +kernel
set_option maxRecDepth 1000000 in
theorem cj_d155_0 : e2_idh 4 8 h_d155_0 = true := by decide +kernel
noncomputable def cl_d155_1 : List (Nat × e2_S) := [(174, e2_cutL (al_d155_0.set 2 (11, 2147483648, 2147483668)) 4 (E_d155_0.take 4) h_d155_0),
  (7, e2_cutL (al_d155_1.set 2 (13, 12, 2147483668)) 4 (E_d155_1.take 4) h_d155_1)]
set_option maxRecDepth 1000000 in
theorem ck_d155_1 : e2_runM (e2_cal S_d155 I_d155 4000 1) (e2_fin rs_d155) e2x_245 (e2_bpL cl_d155_1) (e2_cutA cl_d155_1) 4000 (e2_seek e2x_245 7) al_d155_1 [] E_d155_1 h_d155_1 = true := by decide +kernel
set_option maxRecDepth 1000000 in
theorem ci_d155_1 : e2_idl 4 (al_d155_1.set 2 (9, 0, 0)) = true := by decide +kernel
set_option maxRecDepth 1000000 in
theorem cj_d155_1 : e2_idh 4 8 h_d155_1 = true := by decide +kernel
theorem cs_d155 (hen : en_ok) (l : Launch) (hh : e2_hand_d l) : e2_smOk l 65 s_d155 := by
  refine e2_conG (H := 63) (n := 1) (C := evd_245) (S := S_d155) (I := I_d155) (fuel := 4000) hen ei_245 (e2_fa (cs_d126 hen l hh) e2_fz) (e2_fa ein_213 (e2_fa ein_216 e2_fz)) (by decide) co_d155 fun M d _ hC hcall p e R s m args below meth c Q D cA A ads r0 ha hl0 => ?_
  have L_0 : e2_gdM M p l e R s m args below meth c Q D cA A ads r0 174 al_d155_0 [] E_d155_0 h_d155_0 := by
    refine e2_indL (u := 4) (j := 2) (lo := 2147483648) (hi := 2147483668) (b := 4) (dd := 0) hl0 (by decide) rfl rfl (Or.inr ⟨rfl, rfl⟩) rfl ci_d155_0 cj_d155_0 ?_
    intro r_0 k_0 hk_0 hp_0 hs_0 hn_0
    have hl_0 : r_0.length ≤ 5 := hs_0.len rfl
    have ha_0 := ha.ext hp_0
    exact e2_fromM hen ha_0 hcall (e2_cutA_ok (e2_fa (fun al st E h hc => hn_0 al st E h hc) e2_fz)) (hC []) (X := e2x_245) ex2_245 174 ck_d155_0
  have EN_0 := e2_entL (u := 4) (j := 2) (lo := 2147483648) (hi := 2147483668) hl0 rfl rfl rfl ci_d155_0 cj_d155_0 L_0
  have L_1 : e2_gdM M p l e R s m args below meth c Q D cA A ads r0 7 al_d155_1 [] E_d155_1 h_d155_1 := by
    refine e2_indL (u := 4) (j := 2) (lo := 2147483648) (hi := 2147483668) (b := 4) (dd := 0) hl0 (by decide) rfl rfl (Or.inr ⟨rfl, rfl⟩) rfl ci_d155_1 cj_d155_1 ?_
    intro r_1 k_1 hk_1 hp_1 hs_1 hn_1
    have hl_1 : r_1.length ≤ 5 := hs_1.len rfl
    have ha_1 := ha.ext hp_1
    exact e2_fromM hen ha_1 hcall (e2_cutA_ok (e2_fa (fun al st E h hc => (EN_0 al st E h hc).ext hp_1) (e2_fa (fun al st E h hc => hn_1 al st E h hc) e2_fz))) (hC []) (X := e2x_245) ex2_245 7 ck_d155_1
  have EN_1 := e2_entL (u := 4) (j := 2) (lo := 2147483648) (hi := 2147483668) hl0 rfl rfl rfl ci_d155_1 cj_d155_1 L_1
  exact e2_from hen ha hcall (e2_cutA_ok (e2_fa (fun al st E h hc => EN_1 al st E h hc) e2_fz)) (hC []) (X := e2x_245) ex2_245 0 ck_d155_e
/-! d156 X10_goYear -/
def as_d156 : List ev_V := [(2, 83, 0)]
def E_d156 : e2_E := [(2147483648, 2147583648, 0, 0), (2147483648, 2147483656, 1, 0), (2147483648, 2147483688, 2, 0), (2147483648, 2147483688, 3, 0)]
def dn1608 : e2_Q6 := (dn1547, dn1531)
def dn1609 : e2_Q7 := (dn1608, dn1533)
def dn1610 : e2_Q4 := (dn322, dn355)
def dn1611 : e2_Q5 := (dn1599, dn1610)
def dn1612 : e2_Q6 := (dn1611, dn312)
def dn1613 : e2_Q7 := (dn1537, dn1612)
def dn1614 : e2_Q8 := (dn1609, dn1613)
noncomputable def f_d156 : ev_H := (dn1614 : e2_Q8)
noncomputable def q_d156_0 : ev_H := (dn1614 : e2_Q8)
noncomputable def rs_d156 : e2_Rs := [((11, 2147483647, 2147483668), q_d156_0)]
noncomputable def s_d156 : e2_Sm := (245, as_d156, E_d156, f_d156, rs_d156)
noncomputable def S_d156 : List e2_Sm := [s_d5, s_d129]
noncomputable def I_d156 : List e2_In := [(213, 2, e2x_213), (216, 1, e2x_216)]
set_option maxRecDepth 1000000 in
theorem co_d156 : e2_okSB E_d156.length as_d156 f_d156 rs_d156 = true := by decide +kernel
def al_d156_0 : List ev_V := [(2, 83, 0), (11, 2147483647, 2147483668), (1, 4, 4294967296), (9, 0, 0)]
def E_d156_0 : e2_E := [(2147483648, 2147583648, 0, 0), (2147483648, 2147483656, 1, 0), (2147483648, 2147483688, 2, 0), (2147483648, 2147483688, 3, 0), (2147483648, 2147483668, 4, 0)]
noncomputable def h_d156_0 : ev_H := (dn1614 : e2_Q8)
def al_d156_1 : List ev_V := [(2, 83, 0), (11, 2147483647, 2147483668), (1, 4, 4294967296), (9, 0, 0)]
def E_d156_1 : e2_E := [(2147483648, 2147583648, 0, 0), (2147483648, 2147483656, 1, 0), (2147483648, 2147483688, 2, 0), (2147483648, 2147483688, 3, 0), (2147483648, 2147483668, 4, 0)]
noncomputable def h_d156_1 : ev_H := (dn1614 : e2_Q8)
noncomputable def cl_d156_e : List (Nat × e2_S) := [(7, e2_cutL (al_d156_1.set 2 (11, 2147483648, 2147483668)) 4 (E_d156_1.take 4) h_d156_1)]
set_option maxRecDepth 1000000 in
theorem ck_d156_e : e2_run (e2_cal S_d156 I_d156 4000 1) (e2_fin rs_d156) e2x_245 (e2_bpL cl_d156_e) (e2_cutA cl_d156_e) 4000 (e2_seek e2x_245 0) (e2_al 4 as_d156) [] E_d156 f_d156 = true := by decide +kernel
noncomputable def cl_d156_0 : List (Nat × e2_S) := [(174, e2_cutL (al_d156_0.set 2 (13, 12, 2147483668)) 4 (E_d156_0.take 4) h_d156_0)]
set_option maxRecDepth 1000000 in
theorem ck_d156_0 : e2_runM (e2_cal S_d156 I_d156 4000 1) (e2_fin rs_d156) e2x_245 (e2_bpL cl_d156_0) (e2_cutA cl_d156_0) 4000 (e2_seek e2x_245 174) al_d156_0 [] E_d156_0 h_d156_0 = true := by decide +kernel
set_option maxRecDepth 1000000 in
theorem ci_d156_0 : e2_idl 4 (al_d156_0.set 2 (9, 0, 0)) = true := by decide +kernel
set_option maxRecDepth 1000000 in
theorem cj_d156_0 : e2_idh 4 8 h_d156_0 = true := by decide +kernel
noncomputable def cl_d156_1 : List (Nat × e2_S) := [(174, e2_cutL (al_d156_0.set 2 (11, 2147483648, 2147483668)) 4 (E_d156_0.take 4) h_d156_0),
  (7, e2_cutL (al_d156_1.set 2 (13, 12, 2147483668)) 4 (E_d156_1.take 4) h_d156_1)]
set_option maxRecDepth 1000000 in
theorem ck_d156_1 : e2_runM (e2_cal S_d156 I_d156 4000 1) (e2_fin rs_d156) e2x_245 (e2_bpL cl_d156_1) (e2_cutA cl_d156_1) 4000 (e2_seek e2x_245 7) al_d156_1 [] E_d156_1 h_d156_1 = true := by decide +kernel
set_option maxRecDepth 1000000 in
theorem ci_d156_1 : e2_idl 4 (al_d156_1.set 2 (9, 0, 0)) = true := by decide +kernel
set_option maxRecDepth 1000000 in
theorem cj_d156_1 : e2_idh 4 8 h_d156_1 = true := by decide +kernel
theorem cs_d156 (hen : en_ok) (l : Launch) (hh : e2_hand_d l) : e2_smOk l 62 s_d156 := by
  refine e2_conG (H := 60) (n := 1) (C := evd_245) (S := S_d156) (I := I_d156) (fuel := 4000) hen ei_245 (e2_fa (hh _ hm_d5) (e2_fa ((cs_d129 hen l).mono (by decide)) e2_fz)) (e2_fa ein_213 (e2_fa ein_216 e2_fz)) (by decide) co_d156 fun M d _ hC hcall p e R s m args below meth c Q D cA A ads r0 ha hl0 => ?_
  have L_0 : e2_gdM M p l e R s m args below meth c Q D cA A ads r0 174 al_d156_0 [] E_d156_0 h_d156_0 := by
    refine e2_indL (u := 4) (j := 2) (lo := 2147483648) (hi := 2147483668) (b := 4) (dd := 0) hl0 (by decide) rfl rfl (Or.inr ⟨rfl, rfl⟩) rfl ci_d156_0 cj_d156_0 ?_
    intro r_0 k_0 hk_0 hp_0 hs_0 hn_0
    have hl_0 : r_0.length ≤ 5 := hs_0.len rfl
    have ha_0 := ha.ext hp_0
    exact e2_fromM hen ha_0 hcall (e2_cutA_ok (e2_fa (fun al st E h hc => hn_0 al st E h hc) e2_fz)) (hC []) (X := e2x_245) ex2_245 174 ck_d156_0
  have EN_0 := e2_entL (u := 4) (j := 2) (lo := 2147483648) (hi := 2147483668) hl0 rfl rfl rfl ci_d156_0 cj_d156_0 L_0
  have L_1 : e2_gdM M p l e R s m args below meth c Q D cA A ads r0 7 al_d156_1 [] E_d156_1 h_d156_1 := by
    refine e2_indL (u := 4) (j := 2) (lo := 2147483648) (hi := 2147483668) (b := 4) (dd := 0) hl0 (by decide) rfl rfl (Or.inr ⟨rfl, rfl⟩) rfl ci_d156_1 cj_d156_1 ?_
    intro r_1 k_1 hk_1 hp_1 hs_1 hn_1
    have hl_1 : r_1.length ≤ 5 := hs_1.len rfl
    have ha_1 := ha.ext hp_1
    exact e2_fromM hen ha_1 hcall (e2_cutA_ok (e2_fa (fun al st E h hc => (EN_0 al st E h hc).ext hp_1) (e2_fa (fun al st E h hc => hn_1 al st E h hc) e2_fz))) (hC []) (X := e2x_245) ex2_245 7 ck_d156_1
  have EN_1 := e2_entL (u := 4) (j := 2) (lo := 2147483648) (hi := 2147483668) hl0 rfl rfl rfl ci_d156_1 cj_d156_1 L_1
  exact e2_from hen ha hcall (e2_cutA_ok (e2_fa (fun al st E h hc => EN_1 al st E h hc) e2_fz)) (hC []) (X := e2x_245) ex2_245 0 ck_d156_e
/-! d157 X10_goYear -/
def as_d157 : List ev_V := [(2, 83, 0)]
def E_d157 : e2_E := [(2147483648, 2147583648, 0, 0), (2147483648, 2147483656, 1, 0), (2147483648, 2147483688, 2, 0), (2147483648, 2147483688, 3, 0)]
def dn1615 : e2_Q5 := (dn1578, dn1610)
def dn1616 : e2_Q6 := (dn1615, dn312)
def dn1617 : e2_Q7 := (dn1537, dn1616)
def dn1618 : e2_Q8 := (dn1609, dn1617)
noncomputable def f_d157 : ev_H := (dn1618 : e2_Q8)
noncomputable def q_d157_0 : ev_H := (dn1618 : e2_Q8)
noncomputable def rs_d157 : e2_Rs := [((11, 2147483647, 2147483668), q_d157_0)]
noncomputable def s_d157 : e2_Sm := (245, as_d157, E_d157, f_d157, rs_d157)
noncomputable def S_d157 : List e2_Sm := [s_d6, s_d128]
noncomputable def I_d157 : List e2_In := [(213, 2, e2x_213), (216, 1, e2x_216)]
set_option maxRecDepth 1000000 in
theorem co_d157 : e2_okSB E_d157.length as_d157 f_d157 rs_d157 = true := by decide +kernel
def al_d157_0 : List ev_V := [(2, 83, 0), (11, 2147483647, 2147483668), (1, 4, 4294967296), (9, 0, 0)]
def E_d157_0 : e2_E := [(2147483648, 2147583648, 0, 0), (2147483648, 2147483656, 1, 0), (2147483648, 2147483688, 2, 0), (2147483648, 2147483688, 3, 0), (2147483648, 2147483668, 4, 0)]
noncomputable def h_d157_0 : ev_H := (dn1618 : e2_Q8)
def al_d157_1 : List ev_V := [(2, 83, 0), (11, 2147483647, 2147483668), (1, 4, 4294967296), (9, 0, 0)]
def E_d157_1 : e2_E := [(2147483648, 2147583648, 0, 0), (2147483648, 2147483656, 1, 0), (2147483648, 2147483688, 2, 0), (2147483648, 2147483688, 3, 0), (2147483648, 2147483668, 4, 0)]
noncomputable def h_d157_1 : ev_H := (dn1618 : e2_Q8)
noncomputable def cl_d157_e : List (Nat × e2_S) := [(7, e2_cutL (al_d157_1.set 2 (11, 2147483648, 2147483668)) 4 (E_d157_1.take 4) h_d157_1)]
set_option maxRecDepth 1000000 in
theorem ck_d157_e : e2_run (e2_cal S_d157 I_d157 4000 1) (e2_fin rs_d157) e2x_245 (e2_bpL cl_d157_e) (e2_cutA cl_d157_e) 4000 (e2_seek e2x_245 0) (e2_al 4 as_d157) [] E_d157 f_d157 = true := by decide +kernel
noncomputable def cl_d157_0 : List (Nat × e2_S) := [(174, e2_cutL (al_d157_0.set 2 (13, 12, 2147483668)) 4 (E_d157_0.take 4) h_d157_0)]
set_option maxRecDepth 1000000 in
theorem ck_d157_0 : e2_runM (e2_cal S_d157 I_d157 4000 1) (e2_fin rs_d157) e2x_245 (e2_bpL cl_d157_0) (e2_cutA cl_d157_0) 4000 (e2_seek e2x_245 174) al_d157_0 [] E_d157_0 h_d157_0 = true := by decide +kernel
set_option maxRecDepth 1000000 in
theorem ci_d157_0 : e2_idl 4 (al_d157_0.set 2 (9, 0, 0)) = true := by decide +kernel
set_option maxRecDepth 1000000 in
theorem cj_d157_0 : e2_idh 4 8 h_d157_0 = true := by decide +kernel
noncomputable def cl_d157_1 : List (Nat × e2_S) := [(174, e2_cutL (al_d157_0.set 2 (11, 2147483648, 2147483668)) 4 (E_d157_0.take 4) h_d157_0),
  (7, e2_cutL (al_d157_1.set 2 (13, 12, 2147483668)) 4 (E_d157_1.take 4) h_d157_1)]
set_option maxRecDepth 1000000 in
theorem ck_d157_1 : e2_runM (e2_cal S_d157 I_d157 4000 1) (e2_fin rs_d157) e2x_245 (e2_bpL cl_d157_1) (e2_cutA cl_d157_1) 4000 (e2_seek e2x_245 7) al_d157_1 [] E_d157_1 h_d157_1 = true := by decide +kernel
set_option maxRecDepth 1000000 in
theorem ci_d157_1 : e2_idl 4 (al_d157_1.set 2 (9, 0, 0)) = true := by decide +kernel
set_option maxRecDepth 1000000 in
theorem cj_d157_1 : e2_idh 4 8 h_d157_1 = true := by decide +kernel
theorem cs_d157 (hen : en_ok) (l : Launch) (hh : e2_hand_d l) : e2_smOk l 62 s_d157 := by
  refine e2_conG (H := 60) (n := 1) (C := evd_245) (S := S_d157) (I := I_d157) (fuel := 4000) hen ei_245 (e2_fa (hh _ hm_d6) (e2_fa ((cs_d128 hen l).mono (by decide)) e2_fz)) (e2_fa ein_213 (e2_fa ein_216 e2_fz)) (by decide) co_d157 fun M d _ hC hcall p e R s m args below meth c Q D cA A ads r0 ha hl0 => ?_
  have L_0 : e2_gdM M p l e R s m args below meth c Q D cA A ads r0 174 al_d157_0 [] E_d157_0 h_d157_0 := by
    refine e2_indL (u := 4) (j := 2) (lo := 2147483648) (hi := 2147483668) (b := 4) (dd := 0) hl0 (by decide) rfl rfl (Or.inr ⟨rfl, rfl⟩) rfl ci_d157_0 cj_d157_0 ?_
    intro r_0 k_0 hk_0 hp_0 hs_0 hn_0
    have hl_0 : r_0.length ≤ 5 := hs_0.len rfl
    have ha_0 := ha.ext hp_0
    exact e2_fromM hen ha_0 hcall (e2_cutA_ok (e2_fa (fun al st E h hc => hn_0 al st E h hc) e2_fz)) (hC []) (X := e2x_245) ex2_245 174 ck_d157_0
  have EN_0 := e2_entL (u := 4) (j := 2) (lo := 2147483648) (hi := 2147483668) hl0 rfl rfl rfl ci_d157_0 cj_d157_0 L_0
  have L_1 : e2_gdM M p l e R s m args below meth c Q D cA A ads r0 7 al_d157_1 [] E_d157_1 h_d157_1 := by
    refine e2_indL (u := 4) (j := 2) (lo := 2147483648) (hi := 2147483668) (b := 4) (dd := 0) hl0 (by decide) rfl rfl (Or.inr ⟨rfl, rfl⟩) rfl ci_d157_1 cj_d157_1 ?_
    intro r_1 k_1 hk_1 hp_1 hs_1 hn_1
    have hl_1 : r_1.length ≤ 5 := hs_1.len rfl
    have ha_1 := ha.ext hp_1
    exact e2_fromM hen ha_1 hcall (e2_cutA_ok (e2_fa (fun al st E h hc => (EN_0 al st E h hc).ext hp_1) (e2_fa (fun al st E h hc => hn_1 al st E h hc) e2_fz))) (hC []) (X := e2x_245) ex2_245 7 ck_d157_1
  have EN_1 := e2_entL (u := 4) (j := 2) (lo := 2147483648) (hi := 2147483668) hl0 rfl rfl rfl ci_d157_1 cj_d157_1 L_1
  exact e2_from hen ha hcall (e2_cutA_ok (e2_fa (fun al st E h hc => EN_1 al st E h hc) e2_fz)) (hC []) (X := e2x_245) ex2_245 0 ck_d157_e
/-! d158 X10_goYear -/
def as_d158 : List ev_V := [(2, 83, 0)]
def E_d158 : e2_E := [(2147483648, 2147583648, 0, 0), (2147483648, 2147483656, 1, 0), (2147483648, 2147483688, 2, 0), (2147483648, 2147483688, 3, 0)]
def dn1619 : e2_Q5 := (dn1599, dn1555)
def dn1620 : e2_Q6 := (dn1619, dn312)
def dn1621 : e2_Q7 := (dn1537, dn1620)
def dn1622 : e2_Q8 := (dn1554, dn1621)
noncomputable def f_d158 : ev_H := (dn1622 : e2_Q8)
noncomputable def q_d158_0 : ev_H := (dn1622 : e2_Q8)
noncomputable def rs_d158 : e2_Rs := [((11, 2147483647, 2147483668), q_d158_0)]
noncomputable def s_d158 : e2_Sm := (245, as_d158, E_d158, f_d158, rs_d158)
noncomputable def S_d158 : List e2_Sm := [s_d9, s_d131]
noncomputable def I_d158 : List e2_In := [(213, 2, e2x_213), (216, 1, e2x_216)]
set_option maxRecDepth 1000000 in
theorem co_d158 : e2_okSB E_d158.length as_d158 f_d158 rs_d158 = true := by decide +kernel
def al_d158_0 : List ev_V := [(2, 83, 0), (11, 2147483647, 2147483668), (1, 4, 4294967296), (9, 0, 0)]
def E_d158_0 : e2_E := [(2147483648, 2147583648, 0, 0), (2147483648, 2147483656, 1, 0), (2147483648, 2147483688, 2, 0), (2147483648, 2147483688, 3, 0), (2147483648, 2147483668, 4, 0)]
noncomputable def h_d158_0 : ev_H := (dn1622 : e2_Q8)
def al_d158_1 : List ev_V := [(2, 83, 0), (11, 2147483647, 2147483668), (1, 4, 4294967296), (9, 0, 0)]
def E_d158_1 : e2_E := [(2147483648, 2147583648, 0, 0), (2147483648, 2147483656, 1, 0), (2147483648, 2147483688, 2, 0), (2147483648, 2147483688, 3, 0), (2147483648, 2147483668, 4, 0)]
noncomputable def h_d158_1 : ev_H := (dn1622 : e2_Q8)
noncomputable def cl_d158_e : List (Nat × e2_S) := [(7, e2_cutL (al_d158_1.set 2 (11, 2147483648, 2147483668)) 4 (E_d158_1.take 4) h_d158_1)]
set_option maxRecDepth 1000000 in
theorem ck_d158_e : e2_run (e2_cal S_d158 I_d158 4000 1) (e2_fin rs_d158) e2x_245 (e2_bpL cl_d158_e) (e2_cutA cl_d158_e) 4000 (e2_seek e2x_245 0) (e2_al 4 as_d158) [] E_d158 f_d158 = true := by decide +kernel
noncomputable def cl_d158_0 : List (Nat × e2_S) := [(174, e2_cutL (al_d158_0.set 2 (13, 12, 2147483668)) 4 (E_d158_0.take 4) h_d158_0)]
set_option maxRecDepth 1000000 in
theorem ck_d158_0 : e2_runM (e2_cal S_d158 I_d158 4000 1) (e2_fin rs_d158) e2x_245 (e2_bpL cl_d158_0) (e2_cutA cl_d158_0) 4000 (e2_seek e2x_245 174) al_d158_0 [] E_d158_0 h_d158_0 = true := by decide +kernel
set_option maxRecDepth 1000000 in
theorem ci_d158_0 : e2_idl 4 (al_d158_0.set 2 (9, 0, 0)) = true := by decide +kernel
set_option maxRecDepth 1000000 in
theorem cj_d158_0 : e2_idh 4 8 h_d158_0 = true := by decide +kernel
noncomputable def cl_d158_1 : List (Nat × e2_S) := [(174, e2_cutL (al_d158_0.set 2 (11, 2147483648, 2147483668)) 4 (E_d158_0.take 4) h_d158_0),
  (7, e2_cutL (al_d158_1.set 2 (13, 12, 2147483668)) 4 (E_d158_1.take 4) h_d158_1)]
set_option maxRecDepth 1000000 in
theorem ck_d158_1 : e2_runM (e2_cal S_d158 I_d158 4000 1) (e2_fin rs_d158) e2x_245 (e2_bpL cl_d158_1) (e2_cutA cl_d158_1) 4000 (e2_seek e2x_245 7) al_d158_1 [] E_d158_1 h_d158_1 = true := by decide +kernel
set_option maxRecDepth 1000000 in
theorem ci_d158_1 : e2_idl 4 (al_d158_1.set 2 (9, 0, 0)) = true := by decide +kernel
set_option maxRecDepth 1000000 in
theorem cj_d158_1 : e2_idh 4 8 h_d158_1 = true := by decide +kernel
theorem cs_d158 (hen : en_ok) (l : Launch) (hh : e2_hand_d l) : e2_smOk l 65 s_d158 := by
  refine e2_conG (H := 63) (n := 1) (C := evd_245) (S := S_d158) (I := I_d158) (fuel := 4000) hen ei_245 (e2_fa ((hh _ hm_d9).mono (by decide)) (e2_fa (cs_d131 hen l hh) e2_fz)) (e2_fa ein_213 (e2_fa ein_216 e2_fz)) (by decide) co_d158 fun M d _ hC hcall p e R s m args below meth c Q D cA A ads r0 ha hl0 => ?_
  have L_0 : e2_gdM M p l e R s m args below meth c Q D cA A ads r0 174 al_d158_0 [] E_d158_0 h_d158_0 := by
    refine e2_indL (u := 4) (j := 2) (lo := 2147483648) (hi := 2147483668) (b := 4) (dd := 0) hl0 (by decide) rfl rfl (Or.inr ⟨rfl, rfl⟩) rfl ci_d158_0 cj_d158_0 ?_
    intro r_0 k_0 hk_0 hp_0 hs_0 hn_0
    have hl_0 : r_0.length ≤ 5 := hs_0.len rfl
    have ha_0 := ha.ext hp_0
    exact e2_fromM hen ha_0 hcall (e2_cutA_ok (e2_fa (fun al st E h hc => hn_0 al st E h hc) e2_fz)) (hC []) (X := e2x_245) ex2_245 174 ck_d158_0
  have EN_0 := e2_entL (u := 4) (j := 2) (lo := 2147483648) (hi := 2147483668) hl0 rfl rfl rfl ci_d158_0 cj_d158_0 L_0
  have L_1 : e2_gdM M p l e R s m args below meth c Q D cA A ads r0 7 al_d158_1 [] E_d158_1 h_d158_1 := by
    refine e2_indL (u := 4) (j := 2) (lo := 2147483648) (hi := 2147483668) (b := 4) (dd := 0) hl0 (by decide) rfl rfl (Or.inr ⟨rfl, rfl⟩) rfl ci_d158_1 cj_d158_1 ?_
    intro r_1 k_1 hk_1 hp_1 hs_1 hn_1
    have hl_1 : r_1.length ≤ 5 := hs_1.len rfl
    have ha_1 := ha.ext hp_1
    exact e2_fromM hen ha_1 hcall (e2_cutA_ok (e2_fa (fun al st E h hc => (EN_0 al st E h hc).ext hp_1) (e2_fa (fun al st E h hc => hn_1 al st E h hc) e2_fz))) (hC []) (X := e2x_245) ex2_245 7 ck_d158_1
  have EN_1 := e2_entL (u := 4) (j := 2) (lo := 2147483648) (hi := 2147483668) hl0 rfl rfl rfl ci_d158_1 cj_d158_1 L_1
  exact e2_from hen ha hcall (e2_cutA_ok (e2_fa (fun al st E h hc => EN_1 al st E h hc) e2_fz)) (hC []) (X := e2x_245) ex2_245 0 ck_d158_e
/-! d159 X10_goYear -/
def as_d159 : List ev_V := [(2, 83, 0)]
def E_d159 : e2_E := [(2147483648, 2147583648, 0, 0), (2147483648, 2147483656, 1, 0), (2147483648, 2147483688, 2, 0), (2147483648, 2147483688, 3, 0)]
noncomputable def f_d159 : ev_H := (dn1591 : e2_Q8)
noncomputable def q_d159_0 : ev_H := (dn1591 : e2_Q8)
noncomputable def rs_d159 : e2_Rs := [((11, 2147483647, 2147483668), q_d159_0)]
noncomputable def s_d159 : e2_Sm := (245, as_d159, E_d159, f_d159, rs_d159)
noncomputable def S_d159 : List e2_Sm := [s_d10, s_d130]
noncomputable def I_d159 : List e2_In := [(213, 2, e2x_213), (216, 1, e2x_216)]
set_option maxRecDepth 1000000 in
theorem co_d159 : e2_okSB E_d159.length as_d159 f_d159 rs_d159 = true := by decide +kernel
def al_d159_0 : List ev_V := [(2, 83, 0), (11, 2147483647, 2147483668), (1, 4, 4294967296), (9, 0, 0)]
def E_d159_0 : e2_E := [(2147483648, 2147583648, 0, 0), (2147483648, 2147483656, 1, 0), (2147483648, 2147483688, 2, 0), (2147483648, 2147483688, 3, 0), (2147483648, 2147483668, 4, 0)]
noncomputable def h_d159_0 : ev_H := (dn1591 : e2_Q8)
def al_d159_1 : List ev_V := [(2, 83, 0), (11, 2147483647, 2147483668), (1, 4, 4294967296), (9, 0, 0)]
def E_d159_1 : e2_E := [(2147483648, 2147583648, 0, 0), (2147483648, 2147483656, 1, 0), (2147483648, 2147483688, 2, 0), (2147483648, 2147483688, 3, 0), (2147483648, 2147483668, 4, 0)]
noncomputable def h_d159_1 : ev_H := (dn1591 : e2_Q8)
noncomputable def cl_d159_e : List (Nat × e2_S) := [(7, e2_cutL (al_d159_1.set 2 (11, 2147483648, 2147483668)) 4 (E_d159_1.take 4) h_d159_1)]
set_option maxRecDepth 1000000 in
theorem ck_d159_e : e2_run (e2_cal S_d159 I_d159 4000 1) (e2_fin rs_d159) e2x_245 (e2_bpL cl_d159_e) (e2_cutA cl_d159_e) 4000 (e2_seek e2x_245 0) (e2_al 4 as_d159) [] E_d159 f_d159 = true := by decide +kernel
noncomputable def cl_d159_0 : List (Nat × e2_S) := [(174, e2_cutL (al_d159_0.set 2 (13, 12, 2147483668)) 4 (E_d159_0.take 4) h_d159_0)]
set_option maxRecDepth 1000000 in
theorem ck_d159_0 : e2_runM (e2_cal S_d159 I_d159 4000 1) (e2_fin rs_d159) e2x_245 (e2_bpL cl_d159_0) (e2_cutA cl_d159_0) 4000 (e2_seek e2x_245 174) al_d159_0 [] E_d159_0 h_d159_0 = true := by decide +kernel
set_option maxRecDepth 1000000 in
theorem ci_d159_0 : e2_idl 4 (al_d159_0.set 2 (9, 0, 0)) = true := by decide +kernel
set_option maxRecDepth 1000000 in
theorem cj_d159_0 : e2_idh 4 8 h_d159_0 = true := by decide +kernel
noncomputable def cl_d159_1 : List (Nat × e2_S) := [(174, e2_cutL (al_d159_0.set 2 (11, 2147483648, 2147483668)) 4 (E_d159_0.take 4) h_d159_0),
  (7, e2_cutL (al_d159_1.set 2 (13, 12, 2147483668)) 4 (E_d159_1.take 4) h_d159_1)]
set_option maxRecDepth 1000000 in
theorem ck_d159_1 : e2_runM (e2_cal S_d159 I_d159 4000 1) (e2_fin rs_d159) e2x_245 (e2_bpL cl_d159_1) (e2_cutA cl_d159_1) 4000 (e2_seek e2x_245 7) al_d159_1 [] E_d159_1 h_d159_1 = true := by decide +kernel
set_option maxRecDepth 1000000 in
theorem ci_d159_1 : e2_idl 4 (al_d159_1.set 2 (9, 0, 0)) = true := by decide +kernel
set_option maxRecDepth 1000000 in
theorem cj_d159_1 : e2_idh 4 8 h_d159_1 = true := by decide +kernel
theorem cs_d159 (hen : en_ok) (l : Launch) (hh : e2_hand_d l) : e2_smOk l 65 s_d159 := by
  refine e2_conG (H := 63) (n := 1) (C := evd_245) (S := S_d159) (I := I_d159) (fuel := 4000) hen ei_245 (e2_fa ((hh _ hm_d10).mono (by decide)) (e2_fa (cs_d130 hen l hh) e2_fz)) (e2_fa ein_213 (e2_fa ein_216 e2_fz)) (by decide) co_d159 fun M d _ hC hcall p e R s m args below meth c Q D cA A ads r0 ha hl0 => ?_
  have L_0 : e2_gdM M p l e R s m args below meth c Q D cA A ads r0 174 al_d159_0 [] E_d159_0 h_d159_0 := by
    refine e2_indL (u := 4) (j := 2) (lo := 2147483648) (hi := 2147483668) (b := 4) (dd := 0) hl0 (by decide) rfl rfl (Or.inr ⟨rfl, rfl⟩) rfl ci_d159_0 cj_d159_0 ?_
    intro r_0 k_0 hk_0 hp_0 hs_0 hn_0
    have hl_0 : r_0.length ≤ 5 := hs_0.len rfl
    have ha_0 := ha.ext hp_0
    exact e2_fromM hen ha_0 hcall (e2_cutA_ok (e2_fa (fun al st E h hc => hn_0 al st E h hc) e2_fz)) (hC []) (X := e2x_245) ex2_245 174 ck_d159_0
  have EN_0 := e2_entL (u := 4) (j := 2) (lo := 2147483648) (hi := 2147483668) hl0 rfl rfl rfl ci_d159_0 cj_d159_0 L_0
  have L_1 : e2_gdM M p l e R s m args below meth c Q D cA A ads r0 7 al_d159_1 [] E_d159_1 h_d159_1 := by
    refine e2_indL (u := 4) (j := 2) (lo := 2147483648) (hi := 2147483668) (b := 4) (dd := 0) hl0 (by decide) rfl rfl (Or.inr ⟨rfl, rfl⟩) rfl ci_d159_1 cj_d159_1 ?_
    intro r_1 k_1 hk_1 hp_1 hs_1 hn_1
    have hl_1 : r_1.length ≤ 5 := hs_1.len rfl
    have ha_1 := ha.ext hp_1
    exact e2_fromM hen ha_1 hcall (e2_cutA_ok (e2_fa (fun al st E h hc => (EN_0 al st E h hc).ext hp_1) (e2_fa (fun al st E h hc => hn_1 al st E h hc) e2_fz))) (hC []) (X := e2x_245) ex2_245 7 ck_d159_1
  have EN_1 := e2_entL (u := 4) (j := 2) (lo := 2147483648) (hi := 2147483668) hl0 rfl rfl rfl ci_d159_1 cj_d159_1 L_1
  exact e2_from hen ha hcall (e2_cutA_ok (e2_fa (fun al st E h hc => EN_1 al st E h hc) e2_fz)) (hC []) (X := e2x_245) ex2_245 0 ck_d159_e
/-! d160 X10_year -/
def as_d160 : List ev_V := [(2, 83, 0)]
def E_d160 : e2_E := [(2147483648, 2147583648, 0, 0), (2147483648, 2147483656, 1, 0), (2147483648, 2147483688, 2, 0), (2147483648, 2147483688, 3, 0)]
def dn1623 : e2_Q6 := (dn1519, dn1594)
def dn1624 : e2_Q7 := (dn1517, dn1623)
def dn1625 : e2_Q8 := (dn1624, dn1581)
noncomputable def f_d160 : ev_H := (dn1625 : e2_Q8)
noncomputable def q_d160_0 : ev_H := (dn1625 : e2_Q8)
def dn1626 : e2_Q8 := (dn1624, dn1602)
noncomputable def q_d160_1 : ev_H := (dn1626 : e2_Q8)
noncomputable def rs_d160 : e2_Rs := [((0, 4294967294, 0), q_d160_0), ((11, 2147483647, 2147483668), q_d160_1)]
noncomputable def s_d160 : e2_Sm := (246, as_d160, E_d160, f_d160, rs_d160)
noncomputable def S_d160 : List e2_Sm := [s_d1, s_d152]
noncomputable def I_d160 : List e2_In := []
set_option maxRecDepth 1000000 in
theorem ck_d160 : e2_run (e2_cal S_d160 I_d160 4000 0) (e2_fin rs_d160) e2x_246 (fun _ => false) (fun _ _ _ _ _ => false) 4000 (e2_seek e2x_246 0) (e2_al 1 as_d160) [] E_d160 f_d160 = true := by decide +kernel
set_option maxRecDepth 1000000 in
theorem co_d160 : e2_okSB E_d160.length as_d160 f_d160 rs_d160 = true := by decide +kernel
theorem cs_d160 (hen : en_ok) (l : Launch) (hh : e2_hand_d l) : e2_smOk l 61 s_d160 := e2_con0 (H := 60) (n := 0) (C := evd_246) (S := S_d160) (I := I_d160) (fuel := 4000) [] hen ei_246 (e2_fa (hh _ hm_d1) (e2_fa ((cs_d152 hen l).mono (by decide)) e2_fz)) e2_fz (by decide) co_d160 ex2_246 ck_d160
/-! d161 X10_year -/
def as_d161 : List ev_V := [(2, 83, 0)]
def E_d161 : e2_E := [(2147483648, 2147583648, 0, 0), (2147483648, 2147483656, 1, 0), (2147483648, 2147483688, 2, 0), (2147483648, 2147483688, 3, 0)]
def dn1627 : e2_Q4 := (dn292, dn1592)
def dn1628 : e2_Q5 := (dn1627, dn123)
def dn1629 : e2_Q6 := (dn1519, dn1628)
def dn1630 : e2_Q7 := (dn1532, dn1629)
def dn1631 : e2_Q8 := (dn1630, dn1585)
noncomputable def f_d161 : ev_H := (dn1631 : e2_Q8)
noncomputable def q_d161_0 : ev_H := (dn1631 : e2_Q8)
def dn1632 : e2_Q8 := (dn1630, dn1606)
noncomputable def q_d161_1 : ev_H := (dn1632 : e2_Q8)
noncomputable def rs_d161 : e2_Rs := [((0, 4294967294, 0), q_d161_0), ((11, 2147483647, 2147483668), q_d161_1)]
noncomputable def s_d161 : e2_Sm := (246, as_d161, E_d161, f_d161, rs_d161)
noncomputable def S_d161 : List e2_Sm := [s_d1, s_d154]
noncomputable def I_d161 : List e2_In := []
set_option maxRecDepth 1000000 in
theorem ck_d161 : e2_run (e2_cal S_d161 I_d161 4000 0) (e2_fin rs_d161) e2x_246 (fun _ => false) (fun _ _ _ _ _ => false) 4000 (e2_seek e2x_246 0) (e2_al 1 as_d161) [] E_d161 f_d161 = true := by decide +kernel
set_option maxRecDepth 1000000 in
theorem co_d161 : e2_okSB E_d161.length as_d161 f_d161 rs_d161 = true := by decide +kernel
theorem cs_d161 (hen : en_ok) (l : Launch) (hh : e2_hand_d l) : e2_smOk l 66 s_d161 := e2_con0 (H := 65) (n := 0) (C := evd_246) (S := S_d161) (I := I_d161) (fuel := 4000) [] hen ei_246 (e2_fa ((hh _ hm_d1).mono (by decide)) (e2_fa (cs_d154 hen l hh) e2_fz)) e2_fz (by decide) co_d161 ex2_246 ck_d161
/-! d162 X10_year -/
def as_d162 : List ev_V := [(2, 83, 0)]
def E_d162 : e2_E := [(2147483648, 2147583648, 0, 0), (2147483648, 2147483656, 1, 0), (2147483648, 2147483688, 2, 0), (2147483648, 2147483688, 3, 0)]
def dn1633 : e2_Q7 := (dn1608, dn1629)
def dn1634 : e2_Q8 := (dn1633, dn1617)
noncomputable def f_d162 : ev_H := (dn1634 : e2_Q8)
noncomputable def q_d162_0 : ev_H := (dn1634 : e2_Q8)
def dn1635 : e2_Q8 := (dn1633, dn1613)
noncomputable def q_d162_1 : ev_H := (dn1635 : e2_Q8)
noncomputable def rs_d162 : e2_Rs := [((0, 4294967294, 0), q_d162_0), ((11, 2147483647, 2147483668), q_d162_1)]
noncomputable def s_d162 : e2_Sm := (246, as_d162, E_d162, f_d162, rs_d162)
noncomputable def S_d162 : List e2_Sm := [s_d1, s_d156]
noncomputable def I_d162 : List e2_In := []
set_option maxRecDepth 1000000 in
theorem ck_d162 : e2_run (e2_cal S_d162 I_d162 4000 0) (e2_fin rs_d162) e2x_246 (fun _ => false) (fun _ _ _ _ _ => false) 4000 (e2_seek e2x_246 0) (e2_al 1 as_d162) [] E_d162 f_d162 = true := by decide +kernel
set_option maxRecDepth 1000000 in
theorem co_d162 : e2_okSB E_d162.length as_d162 f_d162 rs_d162 = true := by decide +kernel
theorem cs_d162 (hen : en_ok) (l : Launch) (hh : e2_hand_d l) : e2_smOk l 63 s_d162 := e2_con0 (H := 62) (n := 0) (C := evd_246) (S := S_d162) (I := I_d162) (fuel := 4000) [] hen ei_246 (e2_fa ((hh _ hm_d1).mono (by decide)) (e2_fa (cs_d156 hen l hh) e2_fz)) e2_fz (by decide) co_d162 ex2_246 ck_d162
/-! d163 X10_year -/
def as_d163 : List ev_V := [(2, 83, 0)]
def E_d163 : e2_E := [(2147483648, 2147583648, 0, 0), (2147483648, 2147483656, 1, 0), (2147483648, 2147483688, 2, 0), (2147483648, 2147483688, 3, 0)]
def dn1636 : e2_Q7 := (dn1553, dn1629)
def dn1637 : e2_Q8 := (dn1636, dn1590)
noncomputable def f_d163 : ev_H := (dn1637 : e2_Q8)
noncomputable def q_d163_0 : ev_H := (dn1637 : e2_Q8)
def dn1638 : e2_Q8 := (dn1636, dn1621)
noncomputable def q_d163_1 : ev_H := (dn1638 : e2_Q8)
noncomputable def rs_d163 : e2_Rs := [((0, 4294967294, 0), q_d163_0), ((11, 2147483647, 2147483668), q_d163_1)]
noncomputable def s_d163 : e2_Sm := (246, as_d163, E_d163, f_d163, rs_d163)
noncomputable def S_d163 : List e2_Sm := [s_d1, s_d158]
noncomputable def I_d163 : List e2_In := []
set_option maxRecDepth 1000000 in
theorem ck_d163 : e2_run (e2_cal S_d163 I_d163 4000 0) (e2_fin rs_d163) e2x_246 (fun _ => false) (fun _ _ _ _ _ => false) 4000 (e2_seek e2x_246 0) (e2_al 1 as_d163) [] E_d163 f_d163 = true := by decide +kernel
set_option maxRecDepth 1000000 in
theorem co_d163 : e2_okSB E_d163.length as_d163 f_d163 rs_d163 = true := by decide +kernel
theorem cs_d163 (hen : en_ok) (l : Launch) (hh : e2_hand_d l) : e2_smOk l 66 s_d163 := e2_con0 (H := 65) (n := 0) (C := evd_246) (S := S_d163) (I := I_d163) (fuel := 4000) [] hen ei_246 (e2_fa ((hh _ hm_d1).mono (by decide)) (e2_fa (cs_d158 hen l hh) e2_fz)) e2_fz (by decide) co_d163 ex2_246 ck_d163
/-! d164 X10_readings -/
def as_d164 : List ev_V := [(2, 83, 0)]
def E_d164 : e2_E := [(2147483648, 2147583648, 0, 0), (2147483648, 2147483656, 1, 0), (2147483648, 2147483688, 2, 0), (2147483648, 2147483688, 3, 0)]
noncomputable def f_d164 : ev_H := (dn1525 : e2_Q8)
noncomputable def q_d164_0 : ev_H := (dn1525 : e2_Q8)
noncomputable def rs_d164 : e2_Rs := [((11, 0, 4294967295), q_d164_0)]
noncomputable def s_d164 : e2_Sm := (249, as_d164, E_d164, f_d164, rs_d164)
noncomputable def S_d164 : List e2_Sm := [s_d124]
noncomputable def I_d164 : List e2_In := [(227, 2, e2x_227), (232, 1, e2x_232)]
set_option maxRecDepth 1000000 in
theorem ck_d164 : e2_run (e2_cal S_d164 I_d164 4000 2) (e2_fin rs_d164) e2x_249 (fun _ => false) (fun _ _ _ _ _ => false) 4000 (e2_seek e2x_249 0) (e2_al 1 as_d164) [] E_d164 f_d164 = true := by decide +kernel
set_option maxRecDepth 1000000 in
theorem co_d164 : e2_okSB E_d164.length as_d164 f_d164 rs_d164 = true := by decide +kernel
theorem cs_d164 (hen : en_ok) (l : Launch) : e2_smOk l 9 s_d164 := e2_con0 (H := 6) (n := 2) (C := evd_249) (S := S_d164) (I := I_d164) (fuel := 4000) [] hen ei_249 (e2_fa (cs_d124 hen l) e2_fz) (e2_fa ein_227 (e2_fa ein_232 e2_fz)) (by decide) co_d164 ex2_249 ck_d164
/-! d165 X10_readings -/
def as_d165 : List ev_V := [(2, 83, 0)]
def E_d165 : e2_E := [(2147483648, 2147583648, 0, 0), (2147483648, 2147483656, 1, 0), (2147483648, 2147483688, 2, 0), (2147483648, 2147483688, 3, 0)]
noncomputable def f_d165 : ev_H := (dn1542 : e2_Q8)
noncomputable def q_d165_0 : ev_H := (dn1542 : e2_Q8)
noncomputable def rs_d165 : e2_Rs := [((11, 0, 4294967295), q_d165_0)]
noncomputable def s_d165 : e2_Sm := (249, as_d165, E_d165, f_d165, rs_d165)
noncomputable def S_d165 : List e2_Sm := [s_d126]
noncomputable def I_d165 : List e2_In := [(227, 2, e2x_227), (232, 1, e2x_232)]
set_option maxRecDepth 1000000 in
theorem ck_d165 : e2_run (e2_cal S_d165 I_d165 4000 2) (e2_fin rs_d165) e2x_249 (fun _ => false) (fun _ _ _ _ _ => false) 4000 (e2_seek e2x_249 0) (e2_al 1 as_d165) [] E_d165 f_d165 = true := by decide +kernel
set_option maxRecDepth 1000000 in
theorem co_d165 : e2_okSB E_d165.length as_d165 f_d165 rs_d165 = true := by decide +kernel
theorem cs_d165 (hen : en_ok) (l : Launch) (hh : e2_hand_d l) : e2_smOk l 66 s_d165 := e2_con0 (H := 63) (n := 2) (C := evd_249) (S := S_d165) (I := I_d165) (fuel := 4000) [] hen ei_249 (e2_fa (cs_d126 hen l hh) e2_fz) (e2_fa ein_227 (e2_fa ein_232 e2_fz)) (by decide) co_d165 ex2_249 ck_d165
/-! d166 X10_readings -/
def as_d166 : List ev_V := [(2, 83, 0)]
def E_d166 : e2_E := [(2147483648, 2147583648, 0, 0), (2147483648, 2147483656, 1, 0), (2147483648, 2147483688, 2, 0), (2147483648, 2147483688, 3, 0)]
noncomputable def f_d166 : ev_H := (dn1550 : e2_Q8)
noncomputable def q_d166_0 : ev_H := (dn1550 : e2_Q8)
noncomputable def rs_d166 : e2_Rs := [((11, 0, 4294967295), q_d166_0)]
noncomputable def s_d166 : e2_Sm := (249, as_d166, E_d166, f_d166, rs_d166)
noncomputable def S_d166 : List e2_Sm := [s_d128]
noncomputable def I_d166 : List e2_In := [(227, 2, e2x_227), (232, 1, e2x_232)]
set_option maxRecDepth 1000000 in
theorem ck_d166 : e2_run (e2_cal S_d166 I_d166 4000 2) (e2_fin rs_d166) e2x_249 (fun _ => false) (fun _ _ _ _ _ => false) 4000 (e2_seek e2x_249 0) (e2_al 1 as_d166) [] E_d166 f_d166 = true := by decide +kernel
set_option maxRecDepth 1000000 in
theorem co_d166 : e2_okSB E_d166.length as_d166 f_d166 rs_d166 = true := by decide +kernel
theorem cs_d166 (hen : en_ok) (l : Launch) : e2_smOk l 9 s_d166 := e2_con0 (H := 6) (n := 2) (C := evd_249) (S := S_d166) (I := I_d166) (fuel := 4000) [] hen ei_249 (e2_fa (cs_d128 hen l) e2_fz) (e2_fa ein_227 (e2_fa ein_232 e2_fz)) (by decide) co_d166 ex2_249 ck_d166
/-! d167 X10_readings -/
def as_d167 : List ev_V := [(2, 83, 0)]
def E_d167 : e2_E := [(2147483648, 2147583648, 0, 0), (2147483648, 2147483656, 1, 0), (2147483648, 2147483688, 2, 0), (2147483648, 2147483688, 3, 0)]
noncomputable def f_d167 : ev_H := (dn1559 : e2_Q8)
noncomputable def q_d167_0 : ev_H := (dn1559 : e2_Q8)
noncomputable def rs_d167 : e2_Rs := [((11, 0, 4294967295), q_d167_0)]
noncomputable def s_d167 : e2_Sm := (249, as_d167, E_d167, f_d167, rs_d167)
noncomputable def S_d167 : List e2_Sm := [s_d130]
noncomputable def I_d167 : List e2_In := [(227, 2, e2x_227), (232, 1, e2x_232)]
set_option maxRecDepth 1000000 in
theorem ck_d167 : e2_run (e2_cal S_d167 I_d167 4000 2) (e2_fin rs_d167) e2x_249 (fun _ => false) (fun _ _ _ _ _ => false) 4000 (e2_seek e2x_249 0) (e2_al 1 as_d167) [] E_d167 f_d167 = true := by decide +kernel
set_option maxRecDepth 1000000 in
theorem co_d167 : e2_okSB E_d167.length as_d167 f_d167 rs_d167 = true := by decide +kernel
theorem cs_d167 (hen : en_ok) (l : Launch) (hh : e2_hand_d l) : e2_smOk l 66 s_d167 := e2_con0 (H := 63) (n := 2) (C := evd_249) (S := S_d167) (I := I_d167) (fuel := 4000) [] hen ei_249 (e2_fa (cs_d130 hen l hh) e2_fz) (e2_fa ein_227 (e2_fa ein_232 e2_fz)) (by decide) co_d167 ex2_249 ck_d167
/-! d168 X10_taken -/
def as_d168 : List ev_V := [(2, 83, 0)]
def E_d168 : e2_E := [(2147483648, 2147583648, 0, 0), (2147483648, 2147483656, 1, 0), (2147483648, 2147483688, 2, 0), (2147483648, 2147483688, 3, 0)]
def dc212 : ev_C := (54, [(0, 20, 0), (11, 0, 4294967295)])
def dn1639 : e2_Q1 := (dc212, dc3)
def dn1640 : e2_Q2 := (dn231, dn1639)
def dn1641 : e2_Q3 := (dn230, dn1640)
def dn1642 : e2_Q4 := (dn227, dn1641)
def dn1643 : e2_Q5 := (dn1642, dn250)
def dn1644 : e2_Q6 := (dn1522, dn1643)
def dn1645 : e2_Q7 := (dn1019, dn1644)
def dn1646 : e2_Q8 := (dn1521, dn1645)
noncomputable def f_d168 : ev_H := (dn1646 : e2_Q8)
noncomputable def q_d168_0 : ev_H := (dn1646 : e2_Q8)
noncomputable def rs_d168 : e2_Rs := [((11, 2147483647, 2147483668), q_d168_0)]
noncomputable def s_d168 : e2_Sm := (251, as_d168, E_d168, f_d168, rs_d168)
noncomputable def S_d168 : List e2_Sm := [s_d124]
noncomputable def I_d168 : List e2_In := []
set_option maxRecDepth 1000000 in
theorem co_d168 : e2_okSB E_d168.length as_d168 f_d168 rs_d168 = true := by decide +kernel
def al_d168_0 : List ev_V := [(2, 83, 0), (11, 2147483647, 2147483668), (1, 4, 4294967296)]
def E_d168_0 : e2_E := [(2147483648, 2147583648, 0, 0), (2147483648, 2147483656, 1, 0), (2147483648, 2147483688, 2, 0), (2147483648, 2147483688, 3, 0), (2147483648, 2147483668, 4, 0)]
noncomputable def h_d168_0 : ev_H := (dn1646 : e2_Q8)
noncomputable def cl_d168_e : List (Nat × e2_S) := [(12, e2_cutL (al_d168_0.set 2 (11, 2147483648, 2147483668)) 4 (E_d168_0.take 4) h_d168_0)]
set_option maxRecDepth 1000000 in
theorem ck_d168_e : e2_run (e2_cal S_d168 I_d168 4000 0) (e2_fin rs_d168) e2x_251 (e2_bpL cl_d168_e) (e2_cutA cl_d168_e) 4000 (e2_seek e2x_251 0) (e2_al 3 as_d168) [] E_d168 f_d168 = true := by decide +kernel
noncomputable def cl_d168_0 : List (Nat × e2_S) := [(12, e2_cutL (al_d168_0.set 2 (13, 12, 2147483668)) 4 (E_d168_0.take 4) h_d168_0)]
set_option maxRecDepth 1000000 in
theorem ck_d168_0 : e2_runM (e2_cal S_d168 I_d168 4000 0) (e2_fin rs_d168) e2x_251 (e2_bpL cl_d168_0) (e2_cutA cl_d168_0) 4000 (e2_seek e2x_251 12) al_d168_0 [] E_d168_0 h_d168_0 = true := by decide +kernel
set_option maxRecDepth 1000000 in
theorem ci_d168_0 : e2_idl 4 (al_d168_0.set 2 (9, 0, 0)) = true := by decide +kernel
set_option maxRecDepth 1000000 in
theorem cj_d168_0 : e2_idh 4 8 h_d168_0 = true := by decide +kernel
theorem cs_d168 (hen : en_ok) (l : Launch) : e2_smOk l 7 s_d168 := by
  refine e2_conG (H := 6) (n := 0) (C := evd_251) (S := S_d168) (I := I_d168) (fuel := 4000) hen ei_251 (e2_fa (cs_d124 hen l) e2_fz) e2_fz (by decide) co_d168 fun M d _ hC hcall p e R s m args below meth c Q D cA A ads r0 ha hl0 => ?_
  have L_0 : e2_gdM M p l e R s m args below meth c Q D cA A ads r0 12 al_d168_0 [] E_d168_0 h_d168_0 := by
    refine e2_indL (u := 4) (j := 2) (lo := 2147483648) (hi := 2147483668) (b := 4) (dd := 0) hl0 (by decide) rfl rfl (Or.inr ⟨rfl, rfl⟩) rfl ci_d168_0 cj_d168_0 ?_
    intro r_0 k_0 hk_0 hp_0 hs_0 hn_0
    have hl_0 : r_0.length ≤ 5 := hs_0.len rfl
    have ha_0 := ha.ext hp_0
    exact e2_fromM hen ha_0 hcall (e2_cutA_ok (e2_fa (fun al st E h hc => hn_0 al st E h hc) e2_fz)) (hC []) (X := e2x_251) ex2_251 12 ck_d168_0
  have EN_0 := e2_entL (u := 4) (j := 2) (lo := 2147483648) (hi := 2147483668) hl0 rfl rfl rfl ci_d168_0 cj_d168_0 L_0
  exact e2_from hen ha hcall (e2_cutA_ok (e2_fa (fun al st E h hc => EN_0 al st E h hc) e2_fz)) (hC []) (X := e2x_251) ex2_251 0 ck_d168_e
/-! d169 X10_taken -/
def as_d169 : List ev_V := [(2, 83, 0)]
def E_d169 : e2_E := [(2147483648, 2147583648, 0, 0), (2147483648, 2147483656, 1, 0), (2147483648, 2147483688, 2, 0), (2147483648, 2147483688, 3, 0)]
def dn1647 : e2_Q5 := (dn1642, dn311)
def dn1648 : e2_Q6 := (dn1539, dn1647)
def dn1649 : e2_Q7 := (dn1537, dn1648)
def dn1650 : e2_Q8 := (dn1534, dn1649)
noncomputable def f_d169 : ev_H := (dn1650 : e2_Q8)
noncomputable def q_d169_0 : ev_H := (dn1650 : e2_Q8)
noncomputable def rs_d169 : e2_Rs := [((11, 2147483647, 2147483668), q_d169_0)]
noncomputable def s_d169 : e2_Sm := (251, as_d169, E_d169, f_d169, rs_d169)
noncomputable def S_d169 : List e2_Sm := [s_d126]
noncomputable def I_d169 : List e2_In := []
set_option maxRecDepth 1000000 in
theorem co_d169 : e2_okSB E_d169.length as_d169 f_d169 rs_d169 = true := by decide +kernel
def al_d169_0 : List ev_V := [(2, 83, 0), (11, 2147483647, 2147483668), (1, 4, 4294967296)]
def E_d169_0 : e2_E := [(2147483648, 2147583648, 0, 0), (2147483648, 2147483656, 1, 0), (2147483648, 2147483688, 2, 0), (2147483648, 2147483688, 3, 0), (2147483648, 2147483668, 4, 0)]
noncomputable def h_d169_0 : ev_H := (dn1650 : e2_Q8)
noncomputable def cl_d169_e : List (Nat × e2_S) := [(12, e2_cutL (al_d169_0.set 2 (11, 2147483648, 2147483668)) 4 (E_d169_0.take 4) h_d169_0)]
set_option maxRecDepth 1000000 in
theorem ck_d169_e : e2_run (e2_cal S_d169 I_d169 4000 0) (e2_fin rs_d169) e2x_251 (e2_bpL cl_d169_e) (e2_cutA cl_d169_e) 4000 (e2_seek e2x_251 0) (e2_al 3 as_d169) [] E_d169 f_d169 = true := by decide +kernel
noncomputable def cl_d169_0 : List (Nat × e2_S) := [(12, e2_cutL (al_d169_0.set 2 (13, 12, 2147483668)) 4 (E_d169_0.take 4) h_d169_0)]
set_option maxRecDepth 1000000 in
theorem ck_d169_0 : e2_runM (e2_cal S_d169 I_d169 4000 0) (e2_fin rs_d169) e2x_251 (e2_bpL cl_d169_0) (e2_cutA cl_d169_0) 4000 (e2_seek e2x_251 12) al_d169_0 [] E_d169_0 h_d169_0 = true := by decide +kernel
set_option maxRecDepth 1000000 in
theorem ci_d169_0 : e2_idl 4 (al_d169_0.set 2 (9, 0, 0)) = true := by decide +kernel
set_option maxRecDepth 1000000 in
theorem cj_d169_0 : e2_idh 4 8 h_d169_0 = true := by decide +kernel
theorem cs_d169 (hen : en_ok) (l : Launch) (hh : e2_hand_d l) : e2_smOk l 64 s_d169 := by
  refine e2_conG (H := 63) (n := 0) (C := evd_251) (S := S_d169) (I := I_d169) (fuel := 4000) hen ei_251 (e2_fa (cs_d126 hen l hh) e2_fz) e2_fz (by decide) co_d169 fun M d _ hC hcall p e R s m args below meth c Q D cA A ads r0 ha hl0 => ?_
  have L_0 : e2_gdM M p l e R s m args below meth c Q D cA A ads r0 12 al_d169_0 [] E_d169_0 h_d169_0 := by
    refine e2_indL (u := 4) (j := 2) (lo := 2147483648) (hi := 2147483668) (b := 4) (dd := 0) hl0 (by decide) rfl rfl (Or.inr ⟨rfl, rfl⟩) rfl ci_d169_0 cj_d169_0 ?_
    intro r_0 k_0 hk_0 hp_0 hs_0 hn_0
    have hl_0 : r_0.length ≤ 5 := hs_0.len rfl
    have ha_0 := ha.ext hp_0
    exact e2_fromM hen ha_0 hcall (e2_cutA_ok (e2_fa (fun al st E h hc => hn_0 al st E h hc) e2_fz)) (hC []) (X := e2x_251) ex2_251 12 ck_d169_0
  have EN_0 := e2_entL (u := 4) (j := 2) (lo := 2147483648) (hi := 2147483668) hl0 rfl rfl rfl ci_d169_0 cj_d169_0 L_0
  exact e2_from hen ha hcall (e2_cutA_ok (e2_fa (fun al st E h hc => EN_0 al st E h hc) e2_fz)) (hC []) (X := e2x_251) ex2_251 0 ck_d169_e
/-! d170 X10_taken -/
def as_d170 : List ev_V := [(2, 83, 0)]
def E_d170 : e2_E := [(2147483648, 2147583648, 0, 0), (2147483648, 2147483656, 1, 0), (2147483648, 2147483688, 2, 0), (2147483648, 2147483688, 3, 0)]
def dn1651 : e2_Q8 := (dn1549, dn1645)
noncomputable def f_d170 : ev_H := (dn1651 : e2_Q8)
noncomputable def q_d170_0 : ev_H := (dn1651 : e2_Q8)
noncomputable def rs_d170 : e2_Rs := [((11, 2147483647, 2147483668), q_d170_0)]
noncomputable def s_d170 : e2_Sm := (251, as_d170, E_d170, f_d170, rs_d170)
noncomputable def S_d170 : List e2_Sm := [s_d128]
noncomputable def I_d170 : List e2_In := []
set_option maxRecDepth 1000000 in
theorem co_d170 : e2_okSB E_d170.length as_d170 f_d170 rs_d170 = true := by decide +kernel
def al_d170_0 : List ev_V := [(2, 83, 0), (11, 2147483647, 2147483668), (1, 4, 4294967296)]
def E_d170_0 : e2_E := [(2147483648, 2147583648, 0, 0), (2147483648, 2147483656, 1, 0), (2147483648, 2147483688, 2, 0), (2147483648, 2147483688, 3, 0), (2147483648, 2147483668, 4, 0)]
noncomputable def h_d170_0 : ev_H := (dn1651 : e2_Q8)
noncomputable def cl_d170_e : List (Nat × e2_S) := [(12, e2_cutL (al_d170_0.set 2 (11, 2147483648, 2147483668)) 4 (E_d170_0.take 4) h_d170_0)]
set_option maxRecDepth 1000000 in
theorem ck_d170_e : e2_run (e2_cal S_d170 I_d170 4000 0) (e2_fin rs_d170) e2x_251 (e2_bpL cl_d170_e) (e2_cutA cl_d170_e) 4000 (e2_seek e2x_251 0) (e2_al 3 as_d170) [] E_d170 f_d170 = true := by decide +kernel
noncomputable def cl_d170_0 : List (Nat × e2_S) := [(12, e2_cutL (al_d170_0.set 2 (13, 12, 2147483668)) 4 (E_d170_0.take 4) h_d170_0)]
set_option maxRecDepth 1000000 in
theorem ck_d170_0 : e2_runM (e2_cal S_d170 I_d170 4000 0) (e2_fin rs_d170) e2x_251 (e2_bpL cl_d170_0) (e2_cutA cl_d170_0) 4000 (e2_seek e2x_251 12) al_d170_0 [] E_d170_0 h_d170_0 = true := by decide +kernel
set_option maxRecDepth 1000000 in
theorem ci_d170_0 : e2_idl 4 (al_d170_0.set 2 (9, 0, 0)) = true := by decide +kernel
set_option maxRecDepth 1000000 in
theorem cj_d170_0 : e2_idh 4 8 h_d170_0 = true := by decide +kernel
theorem cs_d170 (hen : en_ok) (l : Launch) : e2_smOk l 7 s_d170 := by
  refine e2_conG (H := 6) (n := 0) (C := evd_251) (S := S_d170) (I := I_d170) (fuel := 4000) hen ei_251 (e2_fa (cs_d128 hen l) e2_fz) e2_fz (by decide) co_d170 fun M d _ hC hcall p e R s m args below meth c Q D cA A ads r0 ha hl0 => ?_
  have L_0 : e2_gdM M p l e R s m args below meth c Q D cA A ads r0 12 al_d170_0 [] E_d170_0 h_d170_0 := by
    refine e2_indL (u := 4) (j := 2) (lo := 2147483648) (hi := 2147483668) (b := 4) (dd := 0) hl0 (by decide) rfl rfl (Or.inr ⟨rfl, rfl⟩) rfl ci_d170_0 cj_d170_0 ?_
    intro r_0 k_0 hk_0 hp_0 hs_0 hn_0
    have hl_0 : r_0.length ≤ 5 := hs_0.len rfl
    have ha_0 := ha.ext hp_0
    exact e2_fromM hen ha_0 hcall (e2_cutA_ok (e2_fa (fun al st E h hc => hn_0 al st E h hc) e2_fz)) (hC []) (X := e2x_251) ex2_251 12 ck_d170_0
  have EN_0 := e2_entL (u := 4) (j := 2) (lo := 2147483648) (hi := 2147483668) hl0 rfl rfl rfl ci_d170_0 cj_d170_0 L_0
  exact e2_from hen ha hcall (e2_cutA_ok (e2_fa (fun al st E h hc => EN_0 al st E h hc) e2_fz)) (hC []) (X := e2x_251) ex2_251 0 ck_d170_e
/-! d171 X10_taken -/
def as_d171 : List ev_V := [(2, 83, 0)]
def E_d171 : e2_E := [(2147483648, 2147583648, 0, 0), (2147483648, 2147483656, 1, 0), (2147483648, 2147483688, 2, 0), (2147483648, 2147483688, 3, 0)]
def dn1652 : e2_Q6 := (dn1556, dn1647)
def dn1653 : e2_Q7 := (dn1537, dn1652)
def dn1654 : e2_Q8 := (dn1554, dn1653)
noncomputable def f_d171 : ev_H := (dn1654 : e2_Q8)
noncomputable def q_d171_0 : ev_H := (dn1654 : e2_Q8)
noncomputable def rs_d171 : e2_Rs := [((11, 2147483647, 2147483668), q_d171_0)]
noncomputable def s_d171 : e2_Sm := (251, as_d171, E_d171, f_d171, rs_d171)
noncomputable def S_d171 : List e2_Sm := [s_d130]
noncomputable def I_d171 : List e2_In := []
set_option maxRecDepth 1000000 in
theorem co_d171 : e2_okSB E_d171.length as_d171 f_d171 rs_d171 = true := by decide +kernel
def al_d171_0 : List ev_V := [(2, 83, 0), (11, 2147483647, 2147483668), (1, 4, 4294967296)]
def E_d171_0 : e2_E := [(2147483648, 2147583648, 0, 0), (2147483648, 2147483656, 1, 0), (2147483648, 2147483688, 2, 0), (2147483648, 2147483688, 3, 0), (2147483648, 2147483668, 4, 0)]
noncomputable def h_d171_0 : ev_H := (dn1654 : e2_Q8)
noncomputable def cl_d171_e : List (Nat × e2_S) := [(12, e2_cutL (al_d171_0.set 2 (11, 2147483648, 2147483668)) 4 (E_d171_0.take 4) h_d171_0)]
set_option maxRecDepth 1000000 in
theorem ck_d171_e : e2_run (e2_cal S_d171 I_d171 4000 0) (e2_fin rs_d171) e2x_251 (e2_bpL cl_d171_e) (e2_cutA cl_d171_e) 4000 (e2_seek e2x_251 0) (e2_al 3 as_d171) [] E_d171 f_d171 = true := by decide +kernel
noncomputable def cl_d171_0 : List (Nat × e2_S) := [(12, e2_cutL (al_d171_0.set 2 (13, 12, 2147483668)) 4 (E_d171_0.take 4) h_d171_0)]
set_option maxRecDepth 1000000 in
theorem ck_d171_0 : e2_runM (e2_cal S_d171 I_d171 4000 0) (e2_fin rs_d171) e2x_251 (e2_bpL cl_d171_0) (e2_cutA cl_d171_0) 4000 (e2_seek e2x_251 12) al_d171_0 [] E_d171_0 h_d171_0 = true := by decide +kernel
set_option maxRecDepth 1000000 in
theorem ci_d171_0 : e2_idl 4 (al_d171_0.set 2 (9, 0, 0)) = true := by decide +kernel
set_option maxRecDepth 1000000 in
theorem cj_d171_0 : e2_idh 4 8 h_d171_0 = true := by decide +kernel
theorem cs_d171 (hen : en_ok) (l : Launch) (hh : e2_hand_d l) : e2_smOk l 64 s_d171 := by
  refine e2_conG (H := 63) (n := 0) (C := evd_251) (S := S_d171) (I := I_d171) (fuel := 4000) hen ei_251 (e2_fa (cs_d130 hen l hh) e2_fz) e2_fz (by decide) co_d171 fun M d _ hC hcall p e R s m args below meth c Q D cA A ads r0 ha hl0 => ?_
  have L_0 : e2_gdM M p l e R s m args below meth c Q D cA A ads r0 12 al_d171_0 [] E_d171_0 h_d171_0 := by
    refine e2_indL (u := 4) (j := 2) (lo := 2147483648) (hi := 2147483668) (b := 4) (dd := 0) hl0 (by decide) rfl rfl (Or.inr ⟨rfl, rfl⟩) rfl ci_d171_0 cj_d171_0 ?_
    intro r_0 k_0 hk_0 hp_0 hs_0 hn_0
    have hl_0 : r_0.length ≤ 5 := hs_0.len rfl
    have ha_0 := ha.ext hp_0
    exact e2_fromM hen ha_0 hcall (e2_cutA_ok (e2_fa (fun al st E h hc => hn_0 al st E h hc) e2_fz)) (hC []) (X := e2x_251) ex2_251 12 ck_d171_0
  have EN_0 := e2_entL (u := 4) (j := 2) (lo := 2147483648) (hi := 2147483668) hl0 rfl rfl rfl ci_d171_0 cj_d171_0 L_0
  exact e2_from hen ha hcall (e2_cutA_ok (e2_fa (fun al st E h hc => EN_0 al st E h hc) e2_fz)) (hC []) (X := e2x_251) ex2_251 0 ck_d171_e
/-! d172 X10_weight -/
def as_d172 : List ev_V := [(2, 83, 0)]
def E_d172 : e2_E := [(2147483648, 2147583648, 0, 0), (2147483648, 2147483656, 1, 0), (2147483648, 2147483688, 2, 0), (2147483648, 2147483688, 3, 0)]
noncomputable def f_d172 : ev_H := (dn1525 : e2_Q8)
noncomputable def q_d172_0 : ev_H := (dn1525 : e2_Q8)
noncomputable def rs_d172 : e2_Rs := [((11, 0, 4294967295), q_d172_0)]
noncomputable def s_d172 : e2_Sm := (252, as_d172, E_d172, f_d172, rs_d172)
noncomputable def S_d172 : List e2_Sm := [s_d124]
noncomputable def I_d172 : List e2_In := [(227, 2, e2x_227)]
set_option maxRecDepth 1000000 in
theorem ck_d172 : e2_run (e2_cal S_d172 I_d172 4000 1) (e2_fin rs_d172) e2x_252 (fun _ => false) (fun _ _ _ _ _ => false) 4000 (e2_seek e2x_252 0) (e2_al 1 as_d172) [] E_d172 f_d172 = true := by decide +kernel
set_option maxRecDepth 1000000 in
theorem co_d172 : e2_okSB E_d172.length as_d172 f_d172 rs_d172 = true := by decide +kernel
theorem cs_d172 (hen : en_ok) (l : Launch) : e2_smOk l 8 s_d172 := e2_con0 (H := 6) (n := 1) (C := evd_252) (S := S_d172) (I := I_d172) (fuel := 4000) [] hen ei_252 (e2_fa (cs_d124 hen l) e2_fz) (e2_fa ein_227 e2_fz) (by decide) co_d172 ex2_252 ck_d172
