/-! CONTRACTS b, printed by a program -/
/-! b199 X10_turn -/
def as_b199 : List ev_V := [(2, 83, 0), (11, 0, 4294967295), (11, 0, 4294967295)]
def E_b199 : e2_E := [(2147483648, 2147583648, 0, 0), (2147483648, 2147483656, 1, 0), (2147483648, 2147483688, 2, 0), (2147483648, 2147483688, 3, 0)]
def bn1721 : e2_Q3 := (bn1656, bn1640)
def bn1722 : e2_Q4 := (bn227, bn1721)
def bn1723 : e2_Q5 := (bn1722, bn250)
def bn1724 : e2_Q6 := (bn1579, bn1723)
def bn1725 : e2_Q7 := (bn1710, bn1724)
def bn1726 : e2_Q8 := (bn1521, bn1725)
noncomputable def f_b199 : ev_H := (bn1726 : e2_Q8)
noncomputable def q_b199_0 : ev_H := (bn1726 : e2_Q8)
noncomputable def rs_b199 : e2_Rs := [((11, 2147483647, 2147483651), q_b199_0)]
noncomputable def s_b199 : e2_Sm := (261, as_b199, E_b199, f_b199, rs_b199)
noncomputable def S_b199 : List e2_Sm := [s_b16, s_b198]
noncomputable def I_b199 : List e2_In := [(212, 3, e2x_212), (220, 2, e2x_220)]
set_option maxRecDepth 1000000 in
theorem ck_b199 : e2_run (e2_cal S_b199 I_b199 4000 2) (e2_fin rs_b199) e2x_261 (fun _ => false) (fun _ _ _ _ _ => false) 4000 (e2_seek e2x_261 0) (e2_al 3 as_b199) [] E_b199 f_b199 = true := by decide +kernel
set_option maxRecDepth 1000000 in
theorem co_b199 : e2_okSB E_b199.length as_b199 f_b199 rs_b199 = true := by decide +kernel
theorem cs_b199 (hen : en_ok) (l : Launch) : e2_smOk l 13 s_b199 := e2_con0 (H := 10) (n := 2) (C := evd_261) (S := S_b199) (I := I_b199) (fuel := 4000) [] hen ei_261 (e2_fa ((cs_b16 hen l).mono (by decide)) (e2_fa (cs_b198 hen l) e2_fz)) (e2_fa ein_212 (e2_fa ein_220 e2_fz)) (by decide) co_b199 ex2_261 ck_b199
/-! b200 X10_turn -/
def as_b200 : List ev_V := [(2, 83, 0), (11, 0, 4294967295), (11, 0, 4294967295)]
def E_b200 : e2_E := [(2147483648, 2147583648, 0, 0), (2147483648, 2147483656, 1, 0), (2147483648, 2147483688, 2, 0), (2147483648, 2147483688, 3, 0)]
def bn1727 : e2_Q6 := (bn1709, bn1536)
def bn1728 : e2_Q5 := (bn1722, bn311)
def bn1729 : e2_Q6 := (bn1583, bn1728)
def bn1730 : e2_Q7 := (bn1727, bn1729)
def bn1731 : e2_Q8 := (bn1534, bn1730)
noncomputable def f_b200 : ev_H := (bn1731 : e2_Q8)
noncomputable def q_b200_0 : ev_H := (bn1731 : e2_Q8)
noncomputable def rs_b200 : e2_Rs := [((11, 2147483647, 2147483651), q_b200_0)]
noncomputable def s_b200 : e2_Sm := (261, as_b200, E_b200, f_b200, rs_b200)
noncomputable def S_b200 : List e2_Sm := [s_b18, s_b198]
noncomputable def I_b200 : List e2_In := [(212, 3, e2x_212), (220, 2, e2x_220)]
set_option maxRecDepth 1000000 in
theorem ck_b200 : e2_run (e2_cal S_b200 I_b200 4000 2) (e2_fin rs_b200) e2x_261 (fun _ => false) (fun _ _ _ _ _ => false) 4000 (e2_seek e2x_261 0) (e2_al 3 as_b200) [] E_b200 f_b200 = true := by decide +kernel
set_option maxRecDepth 1000000 in
theorem co_b200 : e2_okSB E_b200.length as_b200 f_b200 rs_b200 = true := by decide +kernel
theorem cs_b200 (hen : en_ok) (l : Launch) (hh : e2_hand_b l) : e2_smOk l 65 s_b200 := e2_con0 (H := 62) (n := 2) (C := evd_261) (S := S_b200) (I := I_b200) (fuel := 4000) [] hen ei_261 (e2_fa (cs_b18 hen l hh) (e2_fa ((cs_b198 hen l).mono (by decide)) e2_fz)) (e2_fa ein_212 (e2_fa ein_220 e2_fz)) (by decide) co_b200 ex2_261 ck_b200
/-! b201 X10_turn -/
def as_b201 : List ev_V := [(2, 83, 0), (11, 0, 4294967295), (11, 0, 4294967295)]
def E_b201 : e2_E := [(2147483648, 2147583648, 0, 0), (2147483648, 2147483656, 1, 0), (2147483648, 2147483688, 2, 0), (2147483648, 2147483688, 3, 0)]
def bn1732 : e2_Q8 := (bn1549, bn1725)
noncomputable def f_b201 : ev_H := (bn1732 : e2_Q8)
noncomputable def q_b201_0 : ev_H := (bn1732 : e2_Q8)
noncomputable def rs_b201 : e2_Rs := [((11, 2147483647, 2147483651), q_b201_0)]
noncomputable def s_b201 : e2_Sm := (261, as_b201, E_b201, f_b201, rs_b201)
noncomputable def S_b201 : List e2_Sm := [s_b20, s_b198]
noncomputable def I_b201 : List e2_In := [(212, 3, e2x_212), (220, 2, e2x_220)]
set_option maxRecDepth 1000000 in
theorem ck_b201 : e2_run (e2_cal S_b201 I_b201 4000 2) (e2_fin rs_b201) e2x_261 (fun _ => false) (fun _ _ _ _ _ => false) 4000 (e2_seek e2x_261 0) (e2_al 3 as_b201) [] E_b201 f_b201 = true := by decide +kernel
set_option maxRecDepth 1000000 in
theorem co_b201 : e2_okSB E_b201.length as_b201 f_b201 rs_b201 = true := by decide +kernel
theorem cs_b201 (hen : en_ok) (l : Launch) : e2_smOk l 13 s_b201 := e2_con0 (H := 10) (n := 2) (C := evd_261) (S := S_b201) (I := I_b201) (fuel := 4000) [] hen ei_261 (e2_fa ((cs_b20 hen l).mono (by decide)) (e2_fa (cs_b198 hen l) e2_fz)) (e2_fa ein_212 (e2_fa ein_220 e2_fz)) (by decide) co_b201 ex2_261 ck_b201
/-! b202 X10_turn -/
def as_b202 : List ev_V := [(2, 83, 0), (11, 0, 4294967295), (11, 0, 4294967295)]
def E_b202 : e2_E := [(2147483648, 2147583648, 0, 0), (2147483648, 2147483656, 1, 0), (2147483648, 2147483688, 2, 0), (2147483648, 2147483688, 3, 0)]
def bn1733 : e2_Q6 := (bn1588, bn1728)
def bn1734 : e2_Q7 := (bn1727, bn1733)
def bn1735 : e2_Q8 := (bn1554, bn1734)
noncomputable def f_b202 : ev_H := (bn1735 : e2_Q8)
noncomputable def q_b202_0 : ev_H := (bn1735 : e2_Q8)
noncomputable def rs_b202 : e2_Rs := [((11, 2147483647, 2147483651), q_b202_0)]
noncomputable def s_b202 : e2_Sm := (261, as_b202, E_b202, f_b202, rs_b202)
noncomputable def S_b202 : List e2_Sm := [s_b22, s_b198]
noncomputable def I_b202 : List e2_In := [(212, 3, e2x_212), (220, 2, e2x_220)]
set_option maxRecDepth 1000000 in
theorem ck_b202 : e2_run (e2_cal S_b202 I_b202 4000 2) (e2_fin rs_b202) e2x_261 (fun _ => false) (fun _ _ _ _ _ => false) 4000 (e2_seek e2x_261 0) (e2_al 3 as_b202) [] E_b202 f_b202 = true := by decide +kernel
set_option maxRecDepth 1000000 in
theorem co_b202 : e2_okSB E_b202.length as_b202 f_b202 rs_b202 = true := by decide +kernel
theorem cs_b202 (hen : en_ok) (l : Launch) (hh : e2_hand_b l) : e2_smOk l 65 s_b202 := e2_con0 (H := 62) (n := 2) (C := evd_261) (S := S_b202) (I := I_b202) (fuel := 4000) [] hen ei_261 (e2_fa (cs_b22 hen l hh) (e2_fa ((cs_b198 hen l).mono (by decide)) e2_fz)) (e2_fa ein_212 (e2_fa ein_220 e2_fz)) (by decide) co_b202 ex2_261 ck_b202
/-! b203 X10_plain -/
def as_b203 : List ev_V := [(2, 83, 0)]
def E_b203 : e2_E := [(2147483648, 2147583648, 0, 0), (2147483648, 2147483656, 1, 0), (2147483648, 2147483688, 2, 0), (2147483648, 2147483688, 3, 0)]
def bn1736 : e2_Q8 := (bn1521, bn1719)
noncomputable def f_b203 : ev_H := (bn1736 : e2_Q8)
noncomputable def q_b203_0 : ev_H := (bn1736 : e2_Q8)
noncomputable def rs_b203 : e2_Rs := [((11, 2147483647, 2147483651), q_b203_0)]
noncomputable def s_b203 : e2_Sm := (262, as_b203, E_b203, f_b203, rs_b203)
noncomputable def S_b203 : List e2_Sm := [s_b124, s_b198]
noncomputable def I_b203 : List e2_In := []
set_option maxRecDepth 1000000 in
theorem co_b203 : e2_okSB E_b203.length as_b203 f_b203 rs_b203 = true := by decide +kernel
def al_b203_0 : List ev_V := [(2, 83, 0), (1, 4, 4294967296)]
def E_b203_0 : e2_E := [(2147483648, 2147583648, 0, 0), (2147483648, 2147483656, 1, 0), (2147483648, 2147483688, 2, 0), (2147483648, 2147483688, 3, 0), (2147483648, 2147483668, 4, 0)]
noncomputable def h_b203_0 : ev_H := (bn1736 : e2_Q8)
noncomputable def cl_b203_e : List (Nat × e2_S) := [(24, e2_cutL (al_b203_0.set 1 (11, 2147483648, 2147483668)) 4 (E_b203_0.take 4) h_b203_0)]
set_option maxRecDepth 1000000 in
theorem ck_b203_e : e2_run (e2_cal S_b203 I_b203 4000 0) (e2_fin rs_b203) e2x_262 (e2_bpL cl_b203_e) (e2_cutA cl_b203_e) 4000 (e2_seek e2x_262 0) (e2_al 2 as_b203) [] E_b203 f_b203 = true := by decide +kernel
noncomputable def cl_b203_0 : List (Nat × e2_S) := [(24, e2_cutL (al_b203_0.set 1 (13, 12, 2147483668)) 4 (E_b203_0.take 4) h_b203_0)]
set_option maxRecDepth 1000000 in
theorem ck_b203_0 : e2_runM (e2_cal S_b203 I_b203 4000 0) (e2_fin rs_b203) e2x_262 (e2_bpL cl_b203_0) (e2_cutA cl_b203_0) 4000 (e2_seek e2x_262 24) al_b203_0 [] E_b203_0 h_b203_0 = true := by decide +kernel
set_option maxRecDepth 1000000 in
theorem ci_b203_0 : e2_idl 4 (al_b203_0.set 1 (9, 0, 0)) = true := by decide +kernel
set_option maxRecDepth 1000000 in
theorem cj_b203_0 : e2_idh 4 8 h_b203_0 = true := by decide +kernel
theorem cs_b203 (hen : en_ok) (l : Launch) : e2_smOk l 11 s_b203 := by
  refine e2_conG (H := 10) (n := 0) (C := evd_262) (S := S_b203) (I := I_b203) (fuel := 4000) hen ei_262 (e2_fa ((cs_b124 hen l).mono (by decide)) (e2_fa (cs_b198 hen l) e2_fz)) e2_fz (by decide) co_b203 fun M d _ hC hcall p e R s m args below meth c Q D cA A ads r0 ha hl0 => ?_
  have L_0 : e2_gdM M p l e R s m args below meth c Q D cA A ads r0 24 al_b203_0 [] E_b203_0 h_b203_0 := by
    refine e2_indL (u := 4) (j := 1) (lo := 2147483648) (hi := 2147483668) (b := 4) (dd := 0) hl0 (by decide) rfl rfl (Or.inr ⟨rfl, rfl⟩) rfl ci_b203_0 cj_b203_0 ?_
    intro r_0 k_0 hk_0 hp_0 hs_0 hn_0
    have hl_0 : r_0.length ≤ 5 := hs_0.len rfl
    have ha_0 := ha.ext hp_0
    exact e2_fromM hen ha_0 hcall (e2_cutA_ok (e2_fa (fun al st E h hc => hn_0 al st E h hc) e2_fz)) (hC []) (X := e2x_262) ex2_262 24 ck_b203_0
  have EN_0 := e2_entL (u := 4) (j := 1) (lo := 2147483648) (hi := 2147483668) hl0 rfl rfl rfl ci_b203_0 cj_b203_0 L_0
  exact e2_from hen ha hcall (e2_cutA_ok (e2_fa (fun al st E h hc => EN_0 al st E h hc) e2_fz)) (hC []) (X := e2x_262) ex2_262 0 ck_b203_e
/-! b204 X10_plain -/
def as_b204 : List ev_V := [(2, 83, 0)]
def E_b204 : e2_E := [(2147483648, 2147583648, 0, 0), (2147483648, 2147483656, 1, 0), (2147483648, 2147483688, 2, 0), (2147483648, 2147483688, 3, 0)]
def bn1737 : e2_Q6 := (bn1583, bn1647)
def bn1738 : e2_Q7 := (bn1727, bn1737)
def bn1739 : e2_Q8 := (bn1534, bn1738)
noncomputable def f_b204 : ev_H := (bn1739 : e2_Q8)
noncomputable def q_b204_0 : ev_H := (bn1739 : e2_Q8)
noncomputable def rs_b204 : e2_Rs := [((11, 2147483647, 2147483651), q_b204_0)]
noncomputable def s_b204 : e2_Sm := (262, as_b204, E_b204, f_b204, rs_b204)
noncomputable def S_b204 : List e2_Sm := [s_b126, s_b198]
noncomputable def I_b204 : List e2_In := []
set_option maxRecDepth 1000000 in
theorem co_b204 : e2_okSB E_b204.length as_b204 f_b204 rs_b204 = true := by decide +kernel
def al_b204_0 : List ev_V := [(2, 83, 0), (1, 4, 4294967296)]
def E_b204_0 : e2_E := [(2147483648, 2147583648, 0, 0), (2147483648, 2147483656, 1, 0), (2147483648, 2147483688, 2, 0), (2147483648, 2147483688, 3, 0), (2147483648, 2147483668, 4, 0)]
noncomputable def h_b204_0 : ev_H := (bn1739 : e2_Q8)
noncomputable def cl_b204_e : List (Nat × e2_S) := [(24, e2_cutL (al_b204_0.set 1 (11, 2147483648, 2147483668)) 4 (E_b204_0.take 4) h_b204_0)]
set_option maxRecDepth 1000000 in
theorem ck_b204_e : e2_run (e2_cal S_b204 I_b204 4000 0) (e2_fin rs_b204) e2x_262 (e2_bpL cl_b204_e) (e2_cutA cl_b204_e) 4000 (e2_seek e2x_262 0) (e2_al 2 as_b204) [] E_b204 f_b204 = true := by decide +kernel
noncomputable def cl_b204_0 : List (Nat × e2_S) := [(24, e2_cutL (al_b204_0.set 1 (13, 12, 2147483668)) 4 (E_b204_0.take 4) h_b204_0)]
set_option maxRecDepth 1000000 in
theorem ck_b204_0 : e2_runM (e2_cal S_b204 I_b204 4000 0) (e2_fin rs_b204) e2x_262 (e2_bpL cl_b204_0) (e2_cutA cl_b204_0) 4000 (e2_seek e2x_262 24) al_b204_0 [] E_b204_0 h_b204_0 = true := by decide +kernel
set_option maxRecDepth 1000000 in
theorem ci_b204_0 : e2_idl 4 (al_b204_0.set 1 (9, 0, 0)) = true := by decide +kernel
set_option maxRecDepth 1000000 in
theorem cj_b204_0 : e2_idh 4 8 h_b204_0 = true := by decide +kernel
theorem cs_b204 (hen : en_ok) (l : Launch) (hh : e2_hand_b l) : e2_smOk l 64 s_b204 := by
  refine e2_conG (H := 63) (n := 0) (C := evd_262) (S := S_b204) (I := I_b204) (fuel := 4000) hen ei_262 (e2_fa (cs_b126 hen l hh) (e2_fa ((cs_b198 hen l).mono (by decide)) e2_fz)) e2_fz (by decide) co_b204 fun M d _ hC hcall p e R s m args below meth c Q D cA A ads r0 ha hl0 => ?_
  have L_0 : e2_gdM M p l e R s m args below meth c Q D cA A ads r0 24 al_b204_0 [] E_b204_0 h_b204_0 := by
    refine e2_indL (u := 4) (j := 1) (lo := 2147483648) (hi := 2147483668) (b := 4) (dd := 0) hl0 (by decide) rfl rfl (Or.inr ⟨rfl, rfl⟩) rfl ci_b204_0 cj_b204_0 ?_
    intro r_0 k_0 hk_0 hp_0 hs_0 hn_0
    have hl_0 : r_0.length ≤ 5 := hs_0.len rfl
    have ha_0 := ha.ext hp_0
    exact e2_fromM hen ha_0 hcall (e2_cutA_ok (e2_fa (fun al st E h hc => hn_0 al st E h hc) e2_fz)) (hC []) (X := e2x_262) ex2_262 24 ck_b204_0
  have EN_0 := e2_entL (u := 4) (j := 1) (lo := 2147483648) (hi := 2147483668) hl0 rfl rfl rfl ci_b204_0 cj_b204_0 L_0
  exact e2_from hen ha hcall (e2_cutA_ok (e2_fa (fun al st E h hc => EN_0 al st E h hc) e2_fz)) (hC []) (X := e2x_262) ex2_262 0 ck_b204_e
/-! b205 X10_plain -/
def as_b205 : List ev_V := [(2, 83, 0)]
def E_b205 : e2_E := [(2147483648, 2147583648, 0, 0), (2147483648, 2147483656, 1, 0), (2147483648, 2147483688, 2, 0), (2147483648, 2147483688, 3, 0)]
def bn1740 : e2_Q8 := (bn1549, bn1719)
noncomputable def f_b205 : ev_H := (bn1740 : e2_Q8)
noncomputable def q_b205_0 : ev_H := (bn1740 : e2_Q8)
noncomputable def rs_b205 : e2_Rs := [((11, 2147483647, 2147483651), q_b205_0)]
noncomputable def s_b205 : e2_Sm := (262, as_b205, E_b205, f_b205, rs_b205)
noncomputable def S_b205 : List e2_Sm := [s_b128, s_b198]
noncomputable def I_b205 : List e2_In := []
set_option maxRecDepth 1000000 in
theorem co_b205 : e2_okSB E_b205.length as_b205 f_b205 rs_b205 = true := by decide +kernel
def al_b205_0 : List ev_V := [(2, 83, 0), (1, 4, 4294967296)]
def E_b205_0 : e2_E := [(2147483648, 2147583648, 0, 0), (2147483648, 2147483656, 1, 0), (2147483648, 2147483688, 2, 0), (2147483648, 2147483688, 3, 0), (2147483648, 2147483668, 4, 0)]
noncomputable def h_b205_0 : ev_H := (bn1740 : e2_Q8)
noncomputable def cl_b205_e : List (Nat × e2_S) := [(24, e2_cutL (al_b205_0.set 1 (11, 2147483648, 2147483668)) 4 (E_b205_0.take 4) h_b205_0)]
set_option maxRecDepth 1000000 in
theorem ck_b205_e : e2_run (e2_cal S_b205 I_b205 4000 0) (e2_fin rs_b205) e2x_262 (e2_bpL cl_b205_e) (e2_cutA cl_b205_e) 4000 (e2_seek e2x_262 0) (e2_al 2 as_b205) [] E_b205 f_b205 = true := by decide +kernel
noncomputable def cl_b205_0 : List (Nat × e2_S) := [(24, e2_cutL (al_b205_0.set 1 (13, 12, 2147483668)) 4 (E_b205_0.take 4) h_b205_0)]
set_option maxRecDepth 1000000 in
theorem ck_b205_0 : e2_runM (e2_cal S_b205 I_b205 4000 0) (e2_fin rs_b205) e2x_262 (e2_bpL cl_b205_0) (e2_cutA cl_b205_0) 4000 (e2_seek e2x_262 24) al_b205_0 [] E_b205_0 h_b205_0 = true := by decide +kernel
set_option maxRecDepth 1000000 in
theorem ci_b205_0 : e2_idl 4 (al_b205_0.set 1 (9, 0, 0)) = true := by decide +kernel
set_option maxRecDepth 1000000 in
theorem cj_b205_0 : e2_idh 4 8 h_b205_0 = true := by decide +kernel
theorem cs_b205 (hen : en_ok) (l : Launch) : e2_smOk l 11 s_b205 := by
  refine e2_conG (H := 10) (n := 0) (C := evd_262) (S := S_b205) (I := I_b205) (fuel := 4000) hen ei_262 (e2_fa ((cs_b128 hen l).mono (by decide)) (e2_fa (cs_b198 hen l) e2_fz)) e2_fz (by decide) co_b205 fun M d _ hC hcall p e R s m args below meth c Q D cA A ads r0 ha hl0 => ?_
  have L_0 : e2_gdM M p l e R s m args below meth c Q D cA A ads r0 24 al_b205_0 [] E_b205_0 h_b205_0 := by
    refine e2_indL (u := 4) (j := 1) (lo := 2147483648) (hi := 2147483668) (b := 4) (dd := 0) hl0 (by decide) rfl rfl (Or.inr ⟨rfl, rfl⟩) rfl ci_b205_0 cj_b205_0 ?_
    intro r_0 k_0 hk_0 hp_0 hs_0 hn_0
    have hl_0 : r_0.length ≤ 5 := hs_0.len rfl
    have ha_0 := ha.ext hp_0
    exact e2_fromM hen ha_0 hcall (e2_cutA_ok (e2_fa (fun al st E h hc => hn_0 al st E h hc) e2_fz)) (hC []) (X := e2x_262) ex2_262 24 ck_b205_0
  have EN_0 := e2_entL (u := 4) (j := 1) (lo := 2147483648) (hi := 2147483668) hl0 rfl rfl rfl ci_b205_0 cj_b205_0 L_0
  exact e2_from hen ha hcall (e2_cutA_ok (e2_fa (fun al st E h hc => EN_0 al st E h hc) e2_fz)) (hC []) (X := e2x_262) ex2_262 0 ck_b205_e
/-! b206 X10_plain -/
def as_b206 : List ev_V := [(2, 83, 0)]
def E_b206 : e2_E := [(2147483648, 2147583648, 0, 0), (2147483648, 2147483656, 1, 0), (2147483648, 2147483688, 2, 0), (2147483648, 2147483688, 3, 0)]
def bn1741 : e2_Q6 := (bn1588, bn1647)
def bn1742 : e2_Q7 := (bn1727, bn1741)
def bn1743 : e2_Q8 := (bn1554, bn1742)
noncomputable def f_b206 : ev_H := (bn1743 : e2_Q8)
noncomputable def q_b206_0 : ev_H := (bn1743 : e2_Q8)
noncomputable def rs_b206 : e2_Rs := [((11, 2147483647, 2147483651), q_b206_0)]
noncomputable def s_b206 : e2_Sm := (262, as_b206, E_b206, f_b206, rs_b206)
noncomputable def S_b206 : List e2_Sm := [s_b130, s_b198]
noncomputable def I_b206 : List e2_In := []
set_option maxRecDepth 1000000 in
theorem co_b206 : e2_okSB E_b206.length as_b206 f_b206 rs_b206 = true := by decide +kernel
def al_b206_0 : List ev_V := [(2, 83, 0), (1, 4, 4294967296)]
def E_b206_0 : e2_E := [(2147483648, 2147583648, 0, 0), (2147483648, 2147483656, 1, 0), (2147483648, 2147483688, 2, 0), (2147483648, 2147483688, 3, 0), (2147483648, 2147483668, 4, 0)]
noncomputable def h_b206_0 : ev_H := (bn1743 : e2_Q8)
noncomputable def cl_b206_e : List (Nat × e2_S) := [(24, e2_cutL (al_b206_0.set 1 (11, 2147483648, 2147483668)) 4 (E_b206_0.take 4) h_b206_0)]
set_option maxRecDepth 1000000 in
theorem ck_b206_e : e2_run (e2_cal S_b206 I_b206 4000 0) (e2_fin rs_b206) e2x_262 (e2_bpL cl_b206_e) (e2_cutA cl_b206_e) 4000 (e2_seek e2x_262 0) (e2_al 2 as_b206) [] E_b206 f_b206 = true := by decide +kernel
noncomputable def cl_b206_0 : List (Nat × e2_S) := [(24, e2_cutL (al_b206_0.set 1 (13, 12, 2147483668)) 4 (E_b206_0.take 4) h_b206_0)]
set_option maxRecDepth 1000000 in
theorem ck_b206_0 : e2_runM (e2_cal S_b206 I_b206 4000 0) (e2_fin rs_b206) e2x_262 (e2_bpL cl_b206_0) (e2_cutA cl_b206_0) 4000 (e2_seek e2x_262 24) al_b206_0 [] E_b206_0 h_b206_0 = true := by decide +kernel
set_option maxRecDepth 1000000 in
theorem ci_b206_0 : e2_idl 4 (al_b206_0.set 1 (9, 0, 0)) = true := by decide +kernel
set_option maxRecDepth 1000000 in
theorem cj_b206_0 : e2_idh 4 8 h_b206_0 = true := by decide +kernel
theorem cs_b206 (hen : en_ok) (l : Launch) (hh : e2_hand_b l) : e2_smOk l 64 s_b206 := by
  refine e2_conG (H := 63) (n := 0) (C := evd_262) (S := S_b206) (I := I_b206) (fuel := 4000) hen ei_262 (e2_fa (cs_b130 hen l hh) (e2_fa ((cs_b198 hen l).mono (by decide)) e2_fz)) e2_fz (by decide) co_b206 fun M d _ hC hcall p e R s m args below meth c Q D cA A ads r0 ha hl0 => ?_
  have L_0 : e2_gdM M p l e R s m args below meth c Q D cA A ads r0 24 al_b206_0 [] E_b206_0 h_b206_0 := by
    refine e2_indL (u := 4) (j := 1) (lo := 2147483648) (hi := 2147483668) (b := 4) (dd := 0) hl0 (by decide) rfl rfl (Or.inr ⟨rfl, rfl⟩) rfl ci_b206_0 cj_b206_0 ?_
    intro r_0 k_0 hk_0 hp_0 hs_0 hn_0
    have hl_0 : r_0.length ≤ 5 := hs_0.len rfl
    have ha_0 := ha.ext hp_0
    exact e2_fromM hen ha_0 hcall (e2_cutA_ok (e2_fa (fun al st E h hc => hn_0 al st E h hc) e2_fz)) (hC []) (X := e2x_262) ex2_262 24 ck_b206_0
  have EN_0 := e2_entL (u := 4) (j := 1) (lo := 2147483648) (hi := 2147483668) hl0 rfl rfl rfl ci_b206_0 cj_b206_0 L_0
  exact e2_from hen ha hcall (e2_cutA_ok (e2_fa (fun al st E h hc => EN_0 al st E h hc) e2_fz)) (hC []) (X := e2x_262) ex2_262 0 ck_b206_e
/-! b207 X10_isWritten -/
def as_b207 : List ev_V := [(2, 83, 0), (0, 1, 0)]
def E_b207 : e2_E := [(2147483648, 2147583648, 0, 0), (2147483648, 2147483656, 1, 0), (2147483648, 2147483688, 2, 0), (2147483648, 2147483688, 3, 0)]
def bc214 : ev_C := (50, [(11, 2147483648, 2147483655), (0, 4294967295, 0), (0, 4294967295, 0)])
def bn1744 : e2_Q1 := (bc214, bc3)
def bn1745 : e2_Q2 := (bn56, bn1744)
def bn1746 : e2_Q3 := (bn55, bn1745)
def bn1747 : e2_Q4 := (bn52, bn1746)
def bn1748 : e2_Q5 := (bn474, bn1747)
def bn1749 : e2_Q6 := (bn434, bn1748)
def bn1750 : e2_Q7 := (bn1749, bn445)
def bc215 : ev_C := (54, [(0, 3, 0), (11, 0, 4294967295)])
def bn1751 : e2_Q1 := (bc215, bc3)
def bn1752 : e2_Q2 := (bn183, bn1751)
def bn1753 : e2_Q3 := (bn182, bn1752)
def bn1754 : e2_Q4 := (bn179, bn1753)
def bn1755 : e2_Q5 := (bn486, bn1754)
def bn1756 : e2_Q6 := (bn388, bn1755)
def bn1757 : e2_Q7 := (bn1756, bn1523)
def bn1758 : e2_Q8 := (bn1750, bn1757)
noncomputable def f_b207 : ev_H := (bn1758 : e2_Q8)
noncomputable def q_b207_0 : ev_H := (bn1758 : e2_Q8)
noncomputable def rs_b207 : e2_Rs := [((11, 2147483648, 2147483649), q_b207_0)]
noncomputable def s_b207 : e2_Sm := (266, as_b207, E_b207, f_b207, rs_b207)
noncomputable def S_b207 : List e2_Sm := [s_b93]
noncomputable def I_b207 : List e2_In := [(227, 2, e2x_227), (232, 1, e2x_232)]
set_option maxRecDepth 1000000 in
theorem ck_b207 : e2_run (e2_cal S_b207 I_b207 4000 2) (e2_fin rs_b207) e2x_266 (fun _ => false) (fun _ _ _ _ _ => false) 4000 (e2_seek e2x_266 0) (e2_al 4 as_b207) [] E_b207 f_b207 = true := by decide +kernel
set_option maxRecDepth 1000000 in
theorem co_b207 : e2_okSB E_b207.length as_b207 f_b207 rs_b207 = true := by decide +kernel
theorem cs_b207 (hen : en_ok) (l : Launch) : e2_smOk l 8 s_b207 := e2_con0 (H := 5) (n := 2) (C := evd_266) (S := S_b207) (I := I_b207) (fuel := 4000) [] hen ei_266 (e2_fa (cs_b93 hen l) e2_fz) (e2_fa ein_227 (e2_fa ein_232 e2_fz)) (by decide) co_b207 ex2_266 ck_b207
/-! b208 X10_isWritten -/
def as_b208 : List ev_V := [(2, 83, 0), (0, 2, 0)]
def E_b208 : e2_E := [(2147483648, 2147583648, 0, 0), (2147483648, 2147483656, 1, 0), (2147483648, 2147483688, 2, 0), (2147483648, 2147483688, 3, 0)]
def bc216 : ev_C := (50, [(11, 2147483648, 2147483655), (11, 2147483648, 2147483655), (0, 4294967295, 0)])
def bn1759 : e2_Q1 := (bc216, bc3)
def bn1760 : e2_Q2 := (bn56, bn1759)
def bn1761 : e2_Q3 := (bn55, bn1760)
def bn1762 : e2_Q4 := (bn52, bn1761)
def bn1763 : e2_Q5 := (bn474, bn1762)
def bn1764 : e2_Q6 := (bn434, bn1763)
def bn1765 : e2_Q7 := (bn1764, bn445)
def bn1766 : e2_Q8 := (bn1765, bn1757)
noncomputable def f_b208 : ev_H := (bn1766 : e2_Q8)
noncomputable def q_b208_0 : ev_H := (bn1766 : e2_Q8)
noncomputable def rs_b208 : e2_Rs := [((11, 2147483648, 2147483649), q_b208_0)]
noncomputable def s_b208 : e2_Sm := (266, as_b208, E_b208, f_b208, rs_b208)
noncomputable def S_b208 : List e2_Sm := [s_b93]
noncomputable def I_b208 : List e2_In := [(227, 2, e2x_227), (232, 1, e2x_232)]
set_option maxRecDepth 1000000 in
theorem ck_b208 : e2_run (e2_cal S_b208 I_b208 4000 2) (e2_fin rs_b208) e2x_266 (fun _ => false) (fun _ _ _ _ _ => false) 4000 (e2_seek e2x_266 0) (e2_al 4 as_b208) [] E_b208 f_b208 = true := by decide +kernel
set_option maxRecDepth 1000000 in
theorem co_b208 : e2_okSB E_b208.length as_b208 f_b208 rs_b208 = true := by decide +kernel
theorem cs_b208 (hen : en_ok) (l : Launch) : e2_smOk l 8 s_b208 := e2_con0 (H := 5) (n := 2) (C := evd_266) (S := S_b208) (I := I_b208) (fuel := 4000) [] hen ei_266 (e2_fa (cs_b93 hen l) e2_fz) (e2_fa ein_227 (e2_fa ein_232 e2_fz)) (by decide) co_b208 ex2_266 ck_b208
/-! b209 X10_isWritten -/
def as_b209 : List ev_V := [(2, 83, 0), (0, 3, 0)]
def E_b209 : e2_E := [(2147483648, 2147583648, 0, 0), (2147483648, 2147483656, 1, 0), (2147483648, 2147483688, 2, 0), (2147483648, 2147483688, 3, 0)]
def bc217 : ev_C := (50, [(11, 2147483648, 2147483655), (11, 2147483648, 2147483655), (11, 2147483648, 2147483655)])
def bn1767 : e2_Q1 := (bc217, bc3)
def bn1768 : e2_Q2 := (bn56, bn1767)
def bn1769 : e2_Q3 := (bn55, bn1768)
def bn1770 : e2_Q4 := (bn52, bn1769)
def bn1771 : e2_Q5 := (bn474, bn1770)
def bn1772 : e2_Q6 := (bn434, bn1771)
def bn1773 : e2_Q7 := (bn1772, bn445)
def bn1774 : e2_Q8 := (bn1773, bn1757)
noncomputable def f_b209 : ev_H := (bn1774 : e2_Q8)
noncomputable def q_b209_0 : ev_H := (bn1774 : e2_Q8)
noncomputable def rs_b209 : e2_Rs := [((11, 2147483648, 2147483649), q_b209_0)]
noncomputable def s_b209 : e2_Sm := (266, as_b209, E_b209, f_b209, rs_b209)
noncomputable def S_b209 : List e2_Sm := [s_b93]
noncomputable def I_b209 : List e2_In := [(227, 2, e2x_227), (232, 1, e2x_232)]
set_option maxRecDepth 1000000 in
theorem ck_b209 : e2_run (e2_cal S_b209 I_b209 4000 2) (e2_fin rs_b209) e2x_266 (fun _ => false) (fun _ _ _ _ _ => false) 4000 (e2_seek e2x_266 0) (e2_al 4 as_b209) [] E_b209 f_b209 = true := by decide +kernel
set_option maxRecDepth 1000000 in
theorem co_b209 : e2_okSB E_b209.length as_b209 f_b209 rs_b209 = true := by decide +kernel
theorem cs_b209 (hen : en_ok) (l : Launch) : e2_smOk l 8 s_b209 := e2_con0 (H := 5) (n := 2) (C := evd_266) (S := S_b209) (I := I_b209) (fuel := 4000) [] hen ei_266 (e2_fa (cs_b93 hen l) e2_fz) (e2_fa ein_227 (e2_fa ein_232 e2_fz)) (by decide) co_b209 ex2_266 ck_b209
/-! b210 X10_isPlaced -/
def as_b210 : List ev_V := [(2, 83, 0), (11, 2147483648, 2147483667), (0, 1, 0)]
def E_b210 : e2_E := [(2147483648, 2147583648, 0, 0), (2147483648, 2147483656, 1, 0), (2147483648, 2147483688, 2, 0), (2147483648, 2147483688, 3, 0)]
def bn1775 : e2_Q5 := (bn45, bn1747)
def bn1776 : e2_Q6 := (bn267, bn1775)
def bn1777 : e2_Q7 := (bn1776, bn349)
def bn1778 : e2_Q4 := (bn383, bn140)
def bn1779 : e2_Q5 := (bn1778, bn156)
def bn1780 : e2_Q5 := (bn172, bn1754)
def bn1781 : e2_Q6 := (bn1779, bn1780)
def bn1782 : e2_Q7 := (bn1781, bn252)
def bn1783 : e2_Q8 := (bn1777, bn1782)
noncomputable def f_b210 : ev_H := (bn1783 : e2_Q8)
noncomputable def q_b210_0 : ev_H := (bn1783 : e2_Q8)
noncomputable def rs_b210 : e2_Rs := [((11, 2147483648, 2147483649), q_b210_0)]
noncomputable def s_b210 : e2_Sm := (268, as_b210, E_b210, f_b210, rs_b210)
noncomputable def S_b210 : List e2_Sm := []
noncomputable def I_b210 : List e2_In := [(216, 1, e2x_216), (267, 2, e2x_267)]
set_option maxRecDepth 1000000 in
theorem ck_b210 : e2_run (e2_cal S_b210 I_b210 4000 1) (e2_fin rs_b210) e2x_268 (fun _ => false) (fun _ _ _ _ _ => false) 4000 (e2_seek e2x_268 0) (e2_al 5 as_b210) [] E_b210 f_b210 = true := by decide +kernel
set_option maxRecDepth 1000000 in
theorem co_b210 : e2_okSB E_b210.length as_b210 f_b210 rs_b210 = true := by decide +kernel
theorem cs_b210 (hen : en_ok) (l : Launch) : e2_smOk l 2 s_b210 := e2_con0 (H := 0) (n := 1) (C := evd_268) (S := S_b210) (I := I_b210) (fuel := 4000) [] hen ei_268 e2_fz (e2_fa ein_216 (e2_fa ein_267 e2_fz)) (by decide) co_b210 ex2_268 ck_b210
/-! b211 X10_isPlaced -/
def as_b211 : List ev_V := [(2, 83, 0), (11, 2147483648, 2147484160), (0, 2, 0)]
def E_b211 : e2_E := [(2147483648, 2147583648, 0, 0), (2147483648, 2147483656, 1, 0), (2147483648, 2147483688, 2, 0), (2147483648, 2147483688, 3, 0)]
def bn1784 : e2_Q5 := (bn45, bn1762)
def bn1785 : e2_Q6 := (bn267, bn1784)
def bn1786 : e2_Q7 := (bn1785, bn349)
def bn1787 : e2_Q8 := (bn1786, bn1782)
noncomputable def f_b211 : ev_H := (bn1787 : e2_Q8)
noncomputable def q_b211_0 : ev_H := (bn1787 : e2_Q8)
noncomputable def rs_b211 : e2_Rs := [((11, 2147483648, 2147483649), q_b211_0)]
noncomputable def s_b211 : e2_Sm := (268, as_b211, E_b211, f_b211, rs_b211)
noncomputable def S_b211 : List e2_Sm := []
noncomputable def I_b211 : List e2_In := [(216, 1, e2x_216), (267, 2, e2x_267)]
set_option maxRecDepth 1000000 in
theorem ck_b211 : e2_run (e2_cal S_b211 I_b211 4000 1) (e2_fin rs_b211) e2x_268 (fun _ => false) (fun _ _ _ _ _ => false) 4000 (e2_seek e2x_268 0) (e2_al 5 as_b211) [] E_b211 f_b211 = true := by decide +kernel
set_option maxRecDepth 1000000 in
theorem co_b211 : e2_okSB E_b211.length as_b211 f_b211 rs_b211 = true := by decide +kernel
theorem cs_b211 (hen : en_ok) (l : Launch) : e2_smOk l 2 s_b211 := e2_con0 (H := 0) (n := 1) (C := evd_268) (S := S_b211) (I := I_b211) (fuel := 4000) [] hen ei_268 e2_fz (e2_fa ein_216 (e2_fa ein_267 e2_fz)) (by decide) co_b211 ex2_268 ck_b211
/-! b212 X10_isPlaced -/
def as_b212 : List ev_V := [(2, 83, 0), (11, 2147483648, 2147493647), (0, 3, 0)]
def E_b212 : e2_E := [(2147483648, 2147583648, 0, 0), (2147483648, 2147483656, 1, 0), (2147483648, 2147483688, 2, 0), (2147483648, 2147483688, 3, 0)]
def bn1788 : e2_Q5 := (bn45, bn1770)
def bn1789 : e2_Q6 := (bn267, bn1788)
def bn1790 : e2_Q7 := (bn1789, bn349)
def bn1791 : e2_Q8 := (bn1790, bn1782)
noncomputable def f_b212 : ev_H := (bn1791 : e2_Q8)
noncomputable def q_b212_0 : ev_H := (bn1791 : e2_Q8)
noncomputable def rs_b212 : e2_Rs := [((11, 2147483648, 2147483649), q_b212_0)]
noncomputable def s_b212 : e2_Sm := (268, as_b212, E_b212, f_b212, rs_b212)
noncomputable def S_b212 : List e2_Sm := []
noncomputable def I_b212 : List e2_In := [(216, 1, e2x_216), (267, 2, e2x_267)]
set_option maxRecDepth 1000000 in
theorem ck_b212 : e2_run (e2_cal S_b212 I_b212 4000 1) (e2_fin rs_b212) e2x_268 (fun _ => false) (fun _ _ _ _ _ => false) 4000 (e2_seek e2x_268 0) (e2_al 5 as_b212) [] E_b212 f_b212 = true := by decide +kernel
set_option maxRecDepth 1000000 in
theorem co_b212 : e2_okSB E_b212.length as_b212 f_b212 rs_b212 = true := by decide +kernel
theorem cs_b212 (hen : en_ok) (l : Launch) : e2_smOk l 2 s_b212 := e2_con0 (H := 0) (n := 1) (C := evd_268) (S := S_b212) (I := I_b212) (fuel := 4000) [] hen ei_268 e2_fz (e2_fa ein_216 (e2_fa ein_267 e2_fz)) (by decide) co_b212 ex2_268 ck_b212
/-! b213 X10_write -/
def as_b213 : List ev_V := [(2, 83, 0), (11, 0, 4294967295), (11, 0, 4294967295), (11, 0, 4294967295)]
def E_b213 : e2_E := [(2147483648, 2147583648, 0, 0), (2147483648, 2147483656, 1, 0), (2147483648, 2147483688, 2, 0), (2147483648, 2147483688, 3, 0)]
def bc218 : ev_C := (50, [(11, 2147483647, 2147483655), (11, 2147483647, 2147483655), (11, 2147483647, 2147483655)])
def bn1792 : e2_Q1 := (bc218, bc3)
def bn1793 : e2_Q2 := (bn56, bn1792)
def bn1794 : e2_Q3 := (bn55, bn1793)
def bn1795 : e2_Q4 := (bn52, bn1794)
def bn1796 : e2_Q5 := (bn474, bn1795)
def bn1797 : e2_Q6 := (bn1516, bn1796)
def bn1798 : e2_Q7 := (bn1797, bn1520)
def bn1799 : e2_Q7 := (bn1756, bn1644)
def bn1800 : e2_Q8 := (bn1798, bn1799)
noncomputable def f_b213 : ev_H := (bn1800 : e2_Q8)
noncomputable def q_b213_0 : ev_H := (bn1800 : e2_Q8)
noncomputable def rs_b213 : e2_Rs := [((11, 0, 4294967295), q_b213_0)]
noncomputable def s_b213 : e2_Sm := (269, as_b213, E_b213, f_b213, rs_b213)
noncomputable def S_b213 : List e2_Sm := [s_b2, s_b16, s_b207, s_b208, s_b209, s_b210, s_b211, s_b212]
noncomputable def I_b213 : List e2_In := [(212, 3, e2x_212), (216, 1, e2x_216), (217, 1, e2x_217), (219, 2, e2x_219)]
set_option maxRecDepth 1000000 in
theorem co_b213 : e2_okSB E_b213.length as_b213 f_b213 rs_b213 = true := by decide +kernel
def al_b213_0 : List ev_V := [(2, 83, 0), (11, 2147483648, 2147483655), (0, 4294967295, 0), (0, 4294967295, 0), (0, 1, 0), (11, 2147483652, 2147483668), (11, 0, 4294967295), (1, 4, 4294967296), (9, 0, 0)]
def E_b213_0 : e2_E := [(2147483648, 2147583648, 0, 0), (2147483649, 2147483656, 1, 0), (2147483648, 2147483688, 2, 0), (2147483648, 2147483688, 3, 0), (2147483648, 2147483668, 4, 0)]
def bn1801 : e2_Q6 := (bn1516, bn1748)
def bn1802 : e2_Q7 := (bn1801, bn1520)
def bn1803 : e2_Q8 := (bn1802, bn1799)
noncomputable def h_b213_0 : ev_H := (bn1803 : e2_Q8)
def al_b213_1 : List ev_V := [(2, 83, 0), (11, 2147483648, 2147483655), (11, 2147483648, 2147483655), (0, 4294967295, 0), (0, 2, 0), (11, 2147483664, 2147484048), (11, 0, 4294967295), (1, 4, 4294967296), (9, 0, 0)]
def E_b213_1 : e2_E := [(2147483648, 2147583648, 0, 0), (2147483649, 2147483656, 1, 0), (2147483648, 2147483688, 2, 0), (2147483648, 2147483688, 3, 0), (2147483648, 2147484048, 4, 0)]
def bn1804 : e2_Q6 := (bn1516, bn1763)
def bn1805 : e2_Q7 := (bn1804, bn1520)
def bn1806 : e2_Q8 := (bn1805, bn1799)
noncomputable def h_b213_1 : ev_H := (bn1806 : e2_Q8)
def al_b213_2 : List ev_V := [(2, 83, 0), (11, 2147483648, 2147483655), (11, 2147483648, 2147483655), (11, 2147483648, 2147483655), (0, 3, 0), (11, 2147483712, 2147491648), (11, 0, 4294967295), (1, 4, 4294967296), (9, 0, 0)]
def E_b213_2 : e2_E := [(2147483648, 2147583648, 0, 0), (2147483649, 2147483656, 1, 0), (2147483648, 2147483688, 2, 0), (2147483648, 2147483688, 3, 0), (2147483648, 2147491648, 4, 0)]
def bn1807 : e2_Q6 := (bn1516, bn1771)
def bn1808 : e2_Q7 := (bn1807, bn1520)
def bn1809 : e2_Q8 := (bn1808, bn1799)
noncomputable def h_b213_2 : ev_H := (bn1809 : e2_Q8)
noncomputable def cl_b213_e : List (Nat × e2_S) := [(154, e2_cutL (al_b213_0.set 7 (11, 2147483648, 2147483668)) 4 (E_b213_0.take 4) h_b213_0),
  (154, e2_cutL (al_b213_1.set 7 (11, 2147483648, 2147484048)) 4 (E_b213_1.take 4) h_b213_1),
  (154, e2_cutL (al_b213_2.set 7 (11, 2147483648, 2147491648)) 4 (E_b213_2.take 4) h_b213_2)]
set_option maxRecDepth 1000000 in
theorem ck_b213_e : e2_run (e2_cal S_b213 I_b213 4000 2) (e2_fin rs_b213) e2x_269 (e2_bpL cl_b213_e) (e2_cutA cl_b213_e) 4000 (e2_seek e2x_269 0) (e2_al 9 as_b213) [] E_b213 f_b213 = true := by decide +kernel
noncomputable def cl_b213_0 : List (Nat × e2_S) := [(154, e2_cutL (al_b213_0.set 7 (13, 12, 2147483668)) 4 (E_b213_0.take 4) h_b213_0)]
set_option maxRecDepth 1000000 in
theorem ck_b213_0 : e2_runM (e2_cal S_b213 I_b213 4000 2) (e2_fin rs_b213) e2x_269 (e2_bpL cl_b213_0) (e2_cutA cl_b213_0) 4000 (e2_seek e2x_269 154) al_b213_0 [] E_b213_0 h_b213_0 = true := by decide +kernel
set_option maxRecDepth 1000000 in
theorem ci_b213_0 : e2_idl 4 (al_b213_0.set 7 (9, 0, 0)) = true := by decide +kernel
set_option maxRecDepth 1000000 in
theorem cj_b213_0 : e2_idh 4 8 h_b213_0 = true := by decide +kernel
noncomputable def cl_b213_1 : List (Nat × e2_S) := [(154, e2_cutL (al_b213_1.set 7 (13, 12, 2147484048)) 4 (E_b213_1.take 4) h_b213_1)]
set_option maxRecDepth 1000000 in
theorem ck_b213_1 : e2_runM (e2_cal S_b213 I_b213 4000 2) (e2_fin rs_b213) e2x_269 (e2_bpL cl_b213_1) (e2_cutA cl_b213_1) 4000 (e2_seek e2x_269 154) al_b213_1 [] E_b213_1 h_b213_1 = true := by decide +kernel
set_option maxRecDepth 1000000 in
theorem ci_b213_1 : e2_idl 4 (al_b213_1.set 7 (9, 0, 0)) = true := by decide +kernel
set_option maxRecDepth 1000000 in
theorem cj_b213_1 : e2_idh 4 8 h_b213_1 = true := by decide +kernel
noncomputable def cl_b213_2 : List (Nat × e2_S) := [(154, e2_cutL (al_b213_2.set 7 (13, 12, 2147491648)) 4 (E_b213_2.take 4) h_b213_2)]
set_option maxRecDepth 1000000 in
theorem ck_b213_2 : e2_runM (e2_cal S_b213 I_b213 4000 2) (e2_fin rs_b213) e2x_269 (e2_bpL cl_b213_2) (e2_cutA cl_b213_2) 4000 (e2_seek e2x_269 154) al_b213_2 [] E_b213_2 h_b213_2 = true := by decide +kernel
set_option maxRecDepth 1000000 in
theorem ci_b213_2 : e2_idl 4 (al_b213_2.set 7 (9, 0, 0)) = true := by decide +kernel
set_option maxRecDepth 1000000 in
theorem cj_b213_2 : e2_idh 4 8 h_b213_2 = true := by decide +kernel
theorem cs_b213 (hen : en_ok) (l : Launch) (hh : e2_hand_b l) : e2_smOk l 63 s_b213 := by
  refine e2_conG (H := 60) (n := 2) (C := evd_269) (S := S_b213) (I := I_b213) (fuel := 4000) hen ei_269 (e2_fa (hh _ hm_b2) (e2_fa ((cs_b16 hen l).mono (by decide)) (e2_fa ((cs_b207 hen l).mono (by decide)) (e2_fa ((cs_b208 hen l).mono (by decide)) (e2_fa ((cs_b209 hen l).mono (by decide)) (e2_fa ((cs_b210 hen l).mono (by decide)) (e2_fa ((cs_b211 hen l).mono (by decide)) (e2_fa ((cs_b212 hen l).mono (by decide)) e2_fz)))))))) (e2_fa ein_212 (e2_fa ein_216 (e2_fa ein_217 (e2_fa ein_219 e2_fz)))) (by decide) co_b213 fun M d _ hC hcall p e R s m args below meth c Q D cA A ads r0 ha hl0 => ?_
  have L_0 : e2_gdM M p l e R s m args below meth c Q D cA A ads r0 154 al_b213_0 [] E_b213_0 h_b213_0 := by
    refine e2_indL (u := 4) (j := 7) (lo := 2147483648) (hi := 2147483668) (b := 4) (dd := 0) hl0 (by decide) rfl rfl (Or.inr ⟨rfl, rfl⟩) rfl ci_b213_0 cj_b213_0 ?_
    intro r_0 k_0 hk_0 hp_0 hs_0 hn_0
    have hl_0 : r_0.length ≤ 5 := hs_0.len rfl
    have ha_0 := ha.ext hp_0
    exact e2_fromM hen ha_0 hcall (e2_cutA_ok (e2_fa (fun al st E h hc => hn_0 al st E h hc) e2_fz)) (hC []) (X := e2x_269) ex2_269 154 ck_b213_0
  have EN_0 := e2_entL (u := 4) (j := 7) (lo := 2147483648) (hi := 2147483668) hl0 rfl rfl rfl ci_b213_0 cj_b213_0 L_0
  have L_1 : e2_gdM M p l e R s m args below meth c Q D cA A ads r0 154 al_b213_1 [] E_b213_1 h_b213_1 := by
    refine e2_indL (u := 4) (j := 7) (lo := 2147483648) (hi := 2147484048) (b := 4) (dd := 0) hl0 (by decide) rfl rfl (Or.inr ⟨rfl, rfl⟩) rfl ci_b213_1 cj_b213_1 ?_
    intro r_1 k_1 hk_1 hp_1 hs_1 hn_1
    have hl_1 : r_1.length ≤ 5 := hs_1.len rfl
    have ha_1 := ha.ext hp_1
    exact e2_fromM hen ha_1 hcall (e2_cutA_ok (e2_fa (fun al st E h hc => hn_1 al st E h hc) e2_fz)) (hC []) (X := e2x_269) ex2_269 154 ck_b213_1
  have EN_1 := e2_entL (u := 4) (j := 7) (lo := 2147483648) (hi := 2147484048) hl0 rfl rfl rfl ci_b213_1 cj_b213_1 L_1
  have L_2 : e2_gdM M p l e R s m args below meth c Q D cA A ads r0 154 al_b213_2 [] E_b213_2 h_b213_2 := by
    refine e2_indL (u := 4) (j := 7) (lo := 2147483648) (hi := 2147491648) (b := 4) (dd := 0) hl0 (by decide) rfl rfl (Or.inr ⟨rfl, rfl⟩) rfl ci_b213_2 cj_b213_2 ?_
    intro r_2 k_2 hk_2 hp_2 hs_2 hn_2
    have hl_2 : r_2.length ≤ 5 := hs_2.len rfl
    have ha_2 := ha.ext hp_2
    exact e2_fromM hen ha_2 hcall (e2_cutA_ok (e2_fa (fun al st E h hc => hn_2 al st E h hc) e2_fz)) (hC []) (X := e2x_269) ex2_269 154 ck_b213_2
  have EN_2 := e2_entL (u := 4) (j := 7) (lo := 2147483648) (hi := 2147491648) hl0 rfl rfl rfl ci_b213_2 cj_b213_2 L_2
  exact e2_from hen ha hcall (e2_cutA_ok (e2_fa (fun al st E h hc => EN_0 al st E h hc) (e2_fa (fun al st E h hc => EN_1 al st E h hc) (e2_fa (fun al st E h hc => EN_2 al st E h hc) e2_fz)))) (hC []) (X := e2x_269) ex2_269 0 ck_b213_e
/-! b214 X10_write -/
def as_b214 : List ev_V := [(2, 83, 0), (11, 0, 4294967295), (11, 0, 4294967295), (11, 0, 4294967295)]
def E_b214 : e2_E := [(2147483648, 2147583648, 0, 0), (2147483648, 2147483656, 1, 0), (2147483648, 2147483688, 2, 0), (2147483648, 2147483688, 3, 0)]
def bn1810 : e2_Q4 := (bn286, bn1794)
def bn1811 : e2_Q5 := (bn474, bn1810)
def bn1812 : e2_Q6 := (bn1530, bn1811)
def bn1813 : e2_Q7 := (bn1812, bn1533)
def bn1814 : e2_Q5 := (bn1535, bn1754)
def bn1815 : e2_Q6 := (bn388, bn1814)
def bn1816 : e2_Q7 := (bn1815, bn1648)
def bn1817 : e2_Q8 := (bn1813, bn1816)
noncomputable def f_b214 : ev_H := (bn1817 : e2_Q8)
noncomputable def q_b214_0 : ev_H := (bn1817 : e2_Q8)
noncomputable def rs_b214 : e2_Rs := [((11, 0, 4294967295), q_b214_0)]
noncomputable def s_b214 : e2_Sm := (269, as_b214, E_b214, f_b214, rs_b214)
noncomputable def S_b214 : List e2_Sm := [s_b2, s_b18, s_b207, s_b208, s_b209, s_b210, s_b211, s_b212]
noncomputable def I_b214 : List e2_In := [(212, 3, e2x_212), (216, 1, e2x_216), (217, 1, e2x_217), (219, 2, e2x_219)]
set_option maxRecDepth 1000000 in
theorem co_b214 : e2_okSB E_b214.length as_b214 f_b214 rs_b214 = true := by decide +kernel
def al_b214_0 : List ev_V := [(2, 83, 0), (11, 2147483648, 2147483655), (0, 4294967295, 0), (0, 4294967295, 0), (0, 1, 0), (11, 2147483652, 2147483668), (11, 0, 4294967295), (1, 4, 4294967296), (9, 0, 0)]
def E_b214_0 : e2_E := [(2147483648, 2147583648, 0, 0), (2147483649, 2147483656, 1, 0), (2147483648, 2147483688, 2, 0), (2147483648, 2147483688, 3, 0), (2147483648, 2147483668, 4, 0)]
def bn1818 : e2_Q4 := (bn286, bn1746)
def bn1819 : e2_Q5 := (bn474, bn1818)
def bn1820 : e2_Q6 := (bn1530, bn1819)
def bn1821 : e2_Q7 := (bn1820, bn1533)
def bn1822 : e2_Q8 := (bn1821, bn1816)
noncomputable def h_b214_0 : ev_H := (bn1822 : e2_Q8)
def al_b214_1 : List ev_V := [(2, 83, 0), (11, 2147483648, 2147483655), (11, 2147483648, 2147483655), (0, 4294967295, 0), (0, 2, 0), (11, 2147483664, 2147484048), (11, 0, 4294967295), (1, 4, 4294967296), (9, 0, 0)]
def E_b214_1 : e2_E := [(2147483648, 2147583648, 0, 0), (2147483649, 2147483656, 1, 0), (2147483648, 2147483688, 2, 0), (2147483648, 2147483688, 3, 0), (2147483648, 2147484048, 4, 0)]
def bn1823 : e2_Q4 := (bn286, bn1761)
def bn1824 : e2_Q5 := (bn474, bn1823)
def bn1825 : e2_Q6 := (bn1530, bn1824)
def bn1826 : e2_Q7 := (bn1825, bn1533)
def bn1827 : e2_Q8 := (bn1826, bn1816)
noncomputable def h_b214_1 : ev_H := (bn1827 : e2_Q8)
def al_b214_2 : List ev_V := [(2, 83, 0), (11, 2147483648, 2147483655), (11, 2147483648, 2147483655), (11, 2147483648, 2147483655), (0, 3, 0), (11, 2147483712, 2147491648), (11, 0, 4294967295), (1, 4, 4294967296), (9, 0, 0)]
def E_b214_2 : e2_E := [(2147483648, 2147583648, 0, 0), (2147483649, 2147483656, 1, 0), (2147483648, 2147483688, 2, 0), (2147483648, 2147483688, 3, 0), (2147483648, 2147491648, 4, 0)]
def bn1828 : e2_Q4 := (bn286, bn1769)
def bn1829 : e2_Q5 := (bn474, bn1828)
def bn1830 : e2_Q6 := (bn1530, bn1829)
def bn1831 : e2_Q7 := (bn1830, bn1533)
def bn1832 : e2_Q8 := (bn1831, bn1816)
noncomputable def h_b214_2 : ev_H := (bn1832 : e2_Q8)
noncomputable def cl_b214_e : List (Nat × e2_S) := [(154, e2_cutL (al_b214_0.set 7 (11, 2147483648, 2147483668)) 4 (E_b214_0.take 4) h_b214_0),
  (154, e2_cutL (al_b214_1.set 7 (11, 2147483648, 2147484048)) 4 (E_b214_1.take 4) h_b214_1),
  (154, e2_cutL (al_b214_2.set 7 (11, 2147483648, 2147491648)) 4 (E_b214_2.take 4) h_b214_2)]
set_option maxRecDepth 1000000 in
theorem ck_b214_e : e2_run (e2_cal S_b214 I_b214 4000 2) (e2_fin rs_b214) e2x_269 (e2_bpL cl_b214_e) (e2_cutA cl_b214_e) 4000 (e2_seek e2x_269 0) (e2_al 9 as_b214) [] E_b214 f_b214 = true := by decide +kernel
noncomputable def cl_b214_0 : List (Nat × e2_S) := [(154, e2_cutL (al_b214_0.set 7 (13, 12, 2147483668)) 4 (E_b214_0.take 4) h_b214_0)]
set_option maxRecDepth 1000000 in
theorem ck_b214_0 : e2_runM (e2_cal S_b214 I_b214 4000 2) (e2_fin rs_b214) e2x_269 (e2_bpL cl_b214_0) (e2_cutA cl_b214_0) 4000 (e2_seek e2x_269 154) al_b214_0 [] E_b214_0 h_b214_0 = true := by decide +kernel
set_option maxRecDepth 1000000 in
theorem ci_b214_0 : e2_idl 4 (al_b214_0.set 7 (9, 0, 0)) = true := by decide +kernel
set_option maxRecDepth 1000000 in
theorem cj_b214_0 : e2_idh 4 8 h_b214_0 = true := by decide +kernel
noncomputable def cl_b214_1 : List (Nat × e2_S) := [(154, e2_cutL (al_b214_1.set 7 (13, 12, 2147484048)) 4 (E_b214_1.take 4) h_b214_1)]
set_option maxRecDepth 1000000 in
theorem ck_b214_1 : e2_runM (e2_cal S_b214 I_b214 4000 2) (e2_fin rs_b214) e2x_269 (e2_bpL cl_b214_1) (e2_cutA cl_b214_1) 4000 (e2_seek e2x_269 154) al_b214_1 [] E_b214_1 h_b214_1 = true := by decide +kernel
set_option maxRecDepth 1000000 in
theorem ci_b214_1 : e2_idl 4 (al_b214_1.set 7 (9, 0, 0)) = true := by decide +kernel
set_option maxRecDepth 1000000 in
theorem cj_b214_1 : e2_idh 4 8 h_b214_1 = true := by decide +kernel
noncomputable def cl_b214_2 : List (Nat × e2_S) := [(154, e2_cutL (al_b214_2.set 7 (13, 12, 2147491648)) 4 (E_b214_2.take 4) h_b214_2)]
set_option maxRecDepth 1000000 in
theorem ck_b214_2 : e2_runM (e2_cal S_b214 I_b214 4000 2) (e2_fin rs_b214) e2x_269 (e2_bpL cl_b214_2) (e2_cutA cl_b214_2) 4000 (e2_seek e2x_269 154) al_b214_2 [] E_b214_2 h_b214_2 = true := by decide +kernel
set_option maxRecDepth 1000000 in
theorem ci_b214_2 : e2_idl 4 (al_b214_2.set 7 (9, 0, 0)) = true := by decide +kernel
set_option maxRecDepth 1000000 in
theorem cj_b214_2 : e2_idh 4 8 h_b214_2 = true := by decide +kernel
theorem cs_b214 (hen : en_ok) (l : Launch) (hh : e2_hand_b l) : e2_smOk l 65 s_b214 := by
  refine e2_conG (H := 62) (n := 2) (C := evd_269) (S := S_b214) (I := I_b214) (fuel := 4000) hen ei_269 (e2_fa ((hh _ hm_b2).mono (by decide)) (e2_fa (cs_b18 hen l hh) (e2_fa ((cs_b207 hen l).mono (by decide)) (e2_fa ((cs_b208 hen l).mono (by decide)) (e2_fa ((cs_b209 hen l).mono (by decide)) (e2_fa ((cs_b210 hen l).mono (by decide)) (e2_fa ((cs_b211 hen l).mono (by decide)) (e2_fa ((cs_b212 hen l).mono (by decide)) e2_fz)))))))) (e2_fa ein_212 (e2_fa ein_216 (e2_fa ein_217 (e2_fa ein_219 e2_fz)))) (by decide) co_b214 fun M d _ hC hcall p e R s m args below meth c Q D cA A ads r0 ha hl0 => ?_
  have L_0 : e2_gdM M p l e R s m args below meth c Q D cA A ads r0 154 al_b214_0 [] E_b214_0 h_b214_0 := by
    refine e2_indL (u := 4) (j := 7) (lo := 2147483648) (hi := 2147483668) (b := 4) (dd := 0) hl0 (by decide) rfl rfl (Or.inr ⟨rfl, rfl⟩) rfl ci_b214_0 cj_b214_0 ?_
    intro r_0 k_0 hk_0 hp_0 hs_0 hn_0
    have hl_0 : r_0.length ≤ 5 := hs_0.len rfl
    have ha_0 := ha.ext hp_0
    exact e2_fromM hen ha_0 hcall (e2_cutA_ok (e2_fa (fun al st E h hc => hn_0 al st E h hc) e2_fz)) (hC []) (X := e2x_269) ex2_269 154 ck_b214_0
  have EN_0 := e2_entL (u := 4) (j := 7) (lo := 2147483648) (hi := 2147483668) hl0 rfl rfl rfl ci_b214_0 cj_b214_0 L_0
  have L_1 : e2_gdM M p l e R s m args below meth c Q D cA A ads r0 154 al_b214_1 [] E_b214_1 h_b214_1 := by
    refine e2_indL (u := 4) (j := 7) (lo := 2147483648) (hi := 2147484048) (b := 4) (dd := 0) hl0 (by decide) rfl rfl (Or.inr ⟨rfl, rfl⟩) rfl ci_b214_1 cj_b214_1 ?_
    intro r_1 k_1 hk_1 hp_1 hs_1 hn_1
    have hl_1 : r_1.length ≤ 5 := hs_1.len rfl
    have ha_1 := ha.ext hp_1
    exact e2_fromM hen ha_1 hcall (e2_cutA_ok (e2_fa (fun al st E h hc => hn_1 al st E h hc) e2_fz)) (hC []) (X := e2x_269) ex2_269 154 ck_b214_1
  have EN_1 := e2_entL (u := 4) (j := 7) (lo := 2147483648) (hi := 2147484048) hl0 rfl rfl rfl ci_b214_1 cj_b214_1 L_1
  have L_2 : e2_gdM M p l e R s m args below meth c Q D cA A ads r0 154 al_b214_2 [] E_b214_2 h_b214_2 := by
    refine e2_indL (u := 4) (j := 7) (lo := 2147483648) (hi := 2147491648) (b := 4) (dd := 0) hl0 (by decide) rfl rfl (Or.inr ⟨rfl, rfl⟩) rfl ci_b214_2 cj_b214_2 ?_
    intro r_2 k_2 hk_2 hp_2 hs_2 hn_2
    have hl_2 : r_2.length ≤ 5 := hs_2.len rfl
    have ha_2 := ha.ext hp_2
    exact e2_fromM hen ha_2 hcall (e2_cutA_ok (e2_fa (fun al st E h hc => hn_2 al st E h hc) e2_fz)) (hC []) (X := e2x_269) ex2_269 154 ck_b214_2
  have EN_2 := e2_entL (u := 4) (j := 7) (lo := 2147483648) (hi := 2147491648) hl0 rfl rfl rfl ci_b214_2 cj_b214_2 L_2
  exact e2_from hen ha hcall (e2_cutA_ok (e2_fa (fun al st E h hc => EN_0 al st E h hc) (e2_fa (fun al st E h hc => EN_1 al st E h hc) (e2_fa (fun al st E h hc => EN_2 al st E h hc) e2_fz)))) (hC []) (X := e2x_269) ex2_269 0 ck_b214_e
/-! b215 X10_write -/
def as_b215 : List ev_V := [(2, 83, 0), (11, 0, 4294967295), (11, 0, 4294967295), (11, 0, 4294967295)]
def E_b215 : e2_E := [(2147483648, 2147583648, 0, 0), (2147483648, 2147483656, 1, 0), (2147483648, 2147483688, 2, 0), (2147483648, 2147483688, 3, 0)]
def bn1833 : e2_Q6 := (bn1547, bn1796)
def bn1834 : e2_Q7 := (bn1833, bn1520)
def bn1835 : e2_Q8 := (bn1834, bn1799)
noncomputable def f_b215 : ev_H := (bn1835 : e2_Q8)
noncomputable def q_b215_0 : ev_H := (bn1835 : e2_Q8)
noncomputable def rs_b215 : e2_Rs := [((11, 0, 4294967295), q_b215_0)]
noncomputable def s_b215 : e2_Sm := (269, as_b215, E_b215, f_b215, rs_b215)
noncomputable def S_b215 : List e2_Sm := [s_b2, s_b20, s_b207, s_b208, s_b209, s_b210, s_b211, s_b212]
noncomputable def I_b215 : List e2_In := [(212, 3, e2x_212), (216, 1, e2x_216), (217, 1, e2x_217), (219, 2, e2x_219)]
set_option maxRecDepth 1000000 in
theorem co_b215 : e2_okSB E_b215.length as_b215 f_b215 rs_b215 = true := by decide +kernel
def al_b215_0 : List ev_V := [(2, 83, 0), (11, 2147483648, 2147483655), (0, 4294967295, 0), (0, 4294967295, 0), (0, 1, 0), (11, 2147483652, 2147483668), (11, 0, 4294967295), (1, 4, 4294967296), (9, 0, 0)]
def E_b215_0 : e2_E := [(2147483648, 2147583648, 0, 0), (2147483649, 2147483656, 1, 0), (2147483648, 2147483688, 2, 0), (2147483648, 2147483688, 3, 0), (2147483648, 2147483668, 4, 0)]
def bn1836 : e2_Q6 := (bn1547, bn1748)
def bn1837 : e2_Q7 := (bn1836, bn1520)
def bn1838 : e2_Q8 := (bn1837, bn1799)
noncomputable def h_b215_0 : ev_H := (bn1838 : e2_Q8)
def al_b215_1 : List ev_V := [(2, 83, 0), (11, 2147483648, 2147483655), (11, 2147483648, 2147483655), (0, 4294967295, 0), (0, 2, 0), (11, 2147483664, 2147484048), (11, 0, 4294967295), (1, 4, 4294967296), (9, 0, 0)]
def E_b215_1 : e2_E := [(2147483648, 2147583648, 0, 0), (2147483649, 2147483656, 1, 0), (2147483648, 2147483688, 2, 0), (2147483648, 2147483688, 3, 0), (2147483648, 2147484048, 4, 0)]
def bn1839 : e2_Q6 := (bn1547, bn1763)
def bn1840 : e2_Q7 := (bn1839, bn1520)
def bn1841 : e2_Q8 := (bn1840, bn1799)
noncomputable def h_b215_1 : ev_H := (bn1841 : e2_Q8)
def al_b215_2 : List ev_V := [(2, 83, 0), (11, 2147483648, 2147483655), (11, 2147483648, 2147483655), (11, 2147483648, 2147483655), (0, 3, 0), (11, 2147483712, 2147491648), (11, 0, 4294967295), (1, 4, 4294967296), (9, 0, 0)]
def E_b215_2 : e2_E := [(2147483648, 2147583648, 0, 0), (2147483649, 2147483656, 1, 0), (2147483648, 2147483688, 2, 0), (2147483648, 2147483688, 3, 0), (2147483648, 2147491648, 4, 0)]
def bn1842 : e2_Q6 := (bn1547, bn1771)
def bn1843 : e2_Q7 := (bn1842, bn1520)
def bn1844 : e2_Q8 := (bn1843, bn1799)
noncomputable def h_b215_2 : ev_H := (bn1844 : e2_Q8)
noncomputable def cl_b215_e : List (Nat × e2_S) := [(154, e2_cutL (al_b215_0.set 7 (11, 2147483648, 2147483668)) 4 (E_b215_0.take 4) h_b215_0),
  (154, e2_cutL (al_b215_1.set 7 (11, 2147483648, 2147484048)) 4 (E_b215_1.take 4) h_b215_1),
  (154, e2_cutL (al_b215_2.set 7 (11, 2147483648, 2147491648)) 4 (E_b215_2.take 4) h_b215_2)]
set_option maxRecDepth 1000000 in
theorem ck_b215_e : e2_run (e2_cal S_b215 I_b215 4000 2) (e2_fin rs_b215) e2x_269 (e2_bpL cl_b215_e) (e2_cutA cl_b215_e) 4000 (e2_seek e2x_269 0) (e2_al 9 as_b215) [] E_b215 f_b215 = true := by decide +kernel
noncomputable def cl_b215_0 : List (Nat × e2_S) := [(154, e2_cutL (al_b215_0.set 7 (13, 12, 2147483668)) 4 (E_b215_0.take 4) h_b215_0)]
set_option maxRecDepth 1000000 in
theorem ck_b215_0 : e2_runM (e2_cal S_b215 I_b215 4000 2) (e2_fin rs_b215) e2x_269 (e2_bpL cl_b215_0) (e2_cutA cl_b215_0) 4000 (e2_seek e2x_269 154) al_b215_0 [] E_b215_0 h_b215_0 = true := by decide +kernel
set_option maxRecDepth 1000000 in
theorem ci_b215_0 : e2_idl 4 (al_b215_0.set 7 (9, 0, 0)) = true := by decide +kernel
set_option maxRecDepth 1000000 in
theorem cj_b215_0 : e2_idh 4 8 h_b215_0 = true := by decide +kernel
noncomputable def cl_b215_1 : List (Nat × e2_S) := [(154, e2_cutL (al_b215_1.set 7 (13, 12, 2147484048)) 4 (E_b215_1.take 4) h_b215_1)]
set_option maxRecDepth 1000000 in
theorem ck_b215_1 : e2_runM (e2_cal S_b215 I_b215 4000 2) (e2_fin rs_b215) e2x_269 (e2_bpL cl_b215_1) (e2_cutA cl_b215_1) 4000 (e2_seek e2x_269 154) al_b215_1 [] E_b215_1 h_b215_1 = true := by decide +kernel
set_option maxRecDepth 1000000 in
theorem ci_b215_1 : e2_idl 4 (al_b215_1.set 7 (9, 0, 0)) = true := by decide +kernel
set_option maxRecDepth 1000000 in
theorem cj_b215_1 : e2_idh 4 8 h_b215_1 = true := by decide +kernel
noncomputable def cl_b215_2 : List (Nat × e2_S) := [(154, e2_cutL (al_b215_2.set 7 (13, 12, 2147491648)) 4 (E_b215_2.take 4) h_b215_2)]
set_option maxRecDepth 1000000 in
theorem ck_b215_2 : e2_runM (e2_cal S_b215 I_b215 4000 2) (e2_fin rs_b215) e2x_269 (e2_bpL cl_b215_2) (e2_cutA cl_b215_2) 4000 (e2_seek e2x_269 154) al_b215_2 [] E_b215_2 h_b215_2 = true := by decide +kernel
set_option maxRecDepth 1000000 in
theorem ci_b215_2 : e2_idl 4 (al_b215_2.set 7 (9, 0, 0)) = true := by decide +kernel
set_option maxRecDepth 1000000 in
theorem cj_b215_2 : e2_idh 4 8 h_b215_2 = true := by decide +kernel
theorem cs_b215 (hen : en_ok) (l : Launch) (hh : e2_hand_b l) : e2_smOk l 63 s_b215 := by
  refine e2_conG (H := 60) (n := 2) (C := evd_269) (S := S_b215) (I := I_b215) (fuel := 4000) hen ei_269 (e2_fa (hh _ hm_b2) (e2_fa ((cs_b20 hen l).mono (by decide)) (e2_fa ((cs_b207 hen l).mono (by decide)) (e2_fa ((cs_b208 hen l).mono (by decide)) (e2_fa ((cs_b209 hen l).mono (by decide)) (e2_fa ((cs_b210 hen l).mono (by decide)) (e2_fa ((cs_b211 hen l).mono (by decide)) (e2_fa ((cs_b212 hen l).mono (by decide)) e2_fz)))))))) (e2_fa ein_212 (e2_fa ein_216 (e2_fa ein_217 (e2_fa ein_219 e2_fz)))) (by decide) co_b215 fun M d _ hC hcall p e R s m args below meth c Q D cA A ads r0 ha hl0 => ?_
  have L_0 : e2_gdM M p l e R s m args below meth c Q D cA A ads r0 154 al_b215_0 [] E_b215_0 h_b215_0 := by
    refine e2_indL (u := 4) (j := 7) (lo := 2147483648) (hi := 2147483668) (b := 4) (dd := 0) hl0 (by decide) rfl rfl (Or.inr ⟨rfl, rfl⟩) rfl ci_b215_0 cj_b215_0 ?_
    intro r_0 k_0 hk_0 hp_0 hs_0 hn_0
    have hl_0 : r_0.length ≤ 5 := hs_0.len rfl
    have ha_0 := ha.ext hp_0
    exact e2_fromM hen ha_0 hcall (e2_cutA_ok (e2_fa (fun al st E h hc => hn_0 al st E h hc) e2_fz)) (hC []) (X := e2x_269) ex2_269 154 ck_b215_0
  have EN_0 := e2_entL (u := 4) (j := 7) (lo := 2147483648) (hi := 2147483668) hl0 rfl rfl rfl ci_b215_0 cj_b215_0 L_0
  have L_1 : e2_gdM M p l e R s m args below meth c Q D cA A ads r0 154 al_b215_1 [] E_b215_1 h_b215_1 := by
    refine e2_indL (u := 4) (j := 7) (lo := 2147483648) (hi := 2147484048) (b := 4) (dd := 0) hl0 (by decide) rfl rfl (Or.inr ⟨rfl, rfl⟩) rfl ci_b215_1 cj_b215_1 ?_
    intro r_1 k_1 hk_1 hp_1 hs_1 hn_1
    have hl_1 : r_1.length ≤ 5 := hs_1.len rfl
    have ha_1 := ha.ext hp_1
    exact e2_fromM hen ha_1 hcall (e2_cutA_ok (e2_fa (fun al st E h hc => hn_1 al st E h hc) e2_fz)) (hC []) (X := e2x_269) ex2_269 154 ck_b215_1
  have EN_1 := e2_entL (u := 4) (j := 7) (lo := 2147483648) (hi := 2147484048) hl0 rfl rfl rfl ci_b215_1 cj_b215_1 L_1
  have L_2 : e2_gdM M p l e R s m args below meth c Q D cA A ads r0 154 al_b215_2 [] E_b215_2 h_b215_2 := by
    refine e2_indL (u := 4) (j := 7) (lo := 2147483648) (hi := 2147491648) (b := 4) (dd := 0) hl0 (by decide) rfl rfl (Or.inr ⟨rfl, rfl⟩) rfl ci_b215_2 cj_b215_2 ?_
    intro r_2 k_2 hk_2 hp_2 hs_2 hn_2
    have hl_2 : r_2.length ≤ 5 := hs_2.len rfl
    have ha_2 := ha.ext hp_2
    exact e2_fromM hen ha_2 hcall (e2_cutA_ok (e2_fa (fun al st E h hc => hn_2 al st E h hc) e2_fz)) (hC []) (X := e2x_269) ex2_269 154 ck_b215_2
  have EN_2 := e2_entL (u := 4) (j := 7) (lo := 2147483648) (hi := 2147491648) hl0 rfl rfl rfl ci_b215_2 cj_b215_2 L_2
  exact e2_from hen ha hcall (e2_cutA_ok (e2_fa (fun al st E h hc => EN_0 al st E h hc) (e2_fa (fun al st E h hc => EN_1 al st E h hc) (e2_fa (fun al st E h hc => EN_2 al st E h hc) e2_fz)))) (hC []) (X := e2x_269) ex2_269 0 ck_b215_e
/-! b216 X10_write -/
def as_b216 : List ev_V := [(2, 83, 0), (11, 0, 4294967295), (11, 0, 4294967295), (11, 0, 4294967295)]
def E_b216 : e2_E := [(2147483648, 2147583648, 0, 0), (2147483648, 2147483656, 1, 0), (2147483648, 2147483688, 2, 0), (2147483648, 2147483688, 3, 0)]
def bn1845 : e2_Q6 := (bn1552, bn1811)
def bn1846 : e2_Q7 := (bn1845, bn1533)
def bn1847 : e2_Q7 := (bn1815, bn1652)
def bn1848 : e2_Q8 := (bn1846, bn1847)
noncomputable def f_b216 : ev_H := (bn1848 : e2_Q8)
noncomputable def q_b216_0 : ev_H := (bn1848 : e2_Q8)
noncomputable def rs_b216 : e2_Rs := [((11, 0, 4294967295), q_b216_0)]
noncomputable def s_b216 : e2_Sm := (269, as_b216, E_b216, f_b216, rs_b216)
noncomputable def S_b216 : List e2_Sm := [s_b2, s_b22, s_b207, s_b208, s_b209, s_b210, s_b211, s_b212]
noncomputable def I_b216 : List e2_In := [(212, 3, e2x_212), (216, 1, e2x_216), (217, 1, e2x_217), (219, 2, e2x_219)]
set_option maxRecDepth 1000000 in
theorem co_b216 : e2_okSB E_b216.length as_b216 f_b216 rs_b216 = true := by decide +kernel
def al_b216_0 : List ev_V := [(2, 83, 0), (11, 2147483648, 2147483655), (0, 4294967295, 0), (0, 4294967295, 0), (0, 1, 0), (11, 2147483652, 2147483668), (11, 0, 4294967295), (1, 4, 4294967296), (9, 0, 0)]
def E_b216_0 : e2_E := [(2147483648, 2147583648, 0, 0), (2147483649, 2147483656, 1, 0), (2147483648, 2147483688, 2, 0), (2147483648, 2147483688, 3, 0), (2147483648, 2147483668, 4, 0)]
def bn1849 : e2_Q6 := (bn1552, bn1819)
def bn1850 : e2_Q7 := (bn1849, bn1533)
def bn1851 : e2_Q8 := (bn1850, bn1847)
noncomputable def h_b216_0 : ev_H := (bn1851 : e2_Q8)
def al_b216_1 : List ev_V := [(2, 83, 0), (11, 2147483648, 2147483655), (11, 2147483648, 2147483655), (0, 4294967295, 0), (0, 2, 0), (11, 2147483664, 2147484048), (11, 0, 4294967295), (1, 4, 4294967296), (9, 0, 0)]
def E_b216_1 : e2_E := [(2147483648, 2147583648, 0, 0), (2147483649, 2147483656, 1, 0), (2147483648, 2147483688, 2, 0), (2147483648, 2147483688, 3, 0), (2147483648, 2147484048, 4, 0)]
def bn1852 : e2_Q6 := (bn1552, bn1824)
def bn1853 : e2_Q7 := (bn1852, bn1533)
def bn1854 : e2_Q8 := (bn1853, bn1847)
noncomputable def h_b216_1 : ev_H := (bn1854 : e2_Q8)
def al_b216_2 : List ev_V := [(2, 83, 0), (11, 2147483648, 2147483655), (11, 2147483648, 2147483655), (11, 2147483648, 2147483655), (0, 3, 0), (11, 2147483712, 2147491648), (11, 0, 4294967295), (1, 4, 4294967296), (9, 0, 0)]
def E_b216_2 : e2_E := [(2147483648, 2147583648, 0, 0), (2147483649, 2147483656, 1, 0), (2147483648, 2147483688, 2, 0), (2147483648, 2147483688, 3, 0), (2147483648, 2147491648, 4, 0)]
def bn1855 : e2_Q6 := (bn1552, bn1829)
def bn1856 : e2_Q7 := (bn1855, bn1533)
def bn1857 : e2_Q8 := (bn1856, bn1847)
noncomputable def h_b216_2 : ev_H := (bn1857 : e2_Q8)
noncomputable def cl_b216_e : List (Nat × e2_S) := [(154, e2_cutL (al_b216_0.set 7 (11, 2147483648, 2147483668)) 4 (E_b216_0.take 4) h_b216_0),
  (154, e2_cutL (al_b216_1.set 7 (11, 2147483648, 2147484048)) 4 (E_b216_1.take 4) h_b216_1),
  (154, e2_cutL (al_b216_2.set 7 (11, 2147483648, 2147491648)) 4 (E_b216_2.take 4) h_b216_2)]
set_option maxRecDepth 1000000 in
theorem ck_b216_e : e2_run (e2_cal S_b216 I_b216 4000 2) (e2_fin rs_b216) e2x_269 (e2_bpL cl_b216_e) (e2_cutA cl_b216_e) 4000 (e2_seek e2x_269 0) (e2_al 9 as_b216) [] E_b216 f_b216 = true := by decide +kernel
noncomputable def cl_b216_0 : List (Nat × e2_S) := [(154, e2_cutL (al_b216_0.set 7 (13, 12, 2147483668)) 4 (E_b216_0.take 4) h_b216_0)]
set_option maxRecDepth 1000000 in
theorem ck_b216_0 : e2_runM (e2_cal S_b216 I_b216 4000 2) (e2_fin rs_b216) e2x_269 (e2_bpL cl_b216_0) (e2_cutA cl_b216_0) 4000 (e2_seek e2x_269 154) al_b216_0 [] E_b216_0 h_b216_0 = true := by decide +kernel
set_option maxRecDepth 1000000 in
theorem ci_b216_0 : e2_idl 4 (al_b216_0.set 7 (9, 0, 0)) = true := by decide +kernel
set_option maxRecDepth 1000000 in
theorem cj_b216_0 : e2_idh 4 8 h_b216_0 = true := by decide +kernel
noncomputable def cl_b216_1 : List (Nat × e2_S) := [(154, e2_cutL (al_b216_1.set 7 (13, 12, 2147484048)) 4 (E_b216_1.take 4) h_b216_1)]
set_option maxRecDepth 1000000 in
theorem ck_b216_1 : e2_runM (e2_cal S_b216 I_b216 4000 2) (e2_fin rs_b216) e2x_269 (e2_bpL cl_b216_1) (e2_cutA cl_b216_1) 4000 (e2_seek e2x_269 154) al_b216_1 [] E_b216_1 h_b216_1 = true := by decide +kernel
set_option maxRecDepth 1000000 in
theorem ci_b216_1 : e2_idl 4 (al_b216_1.set 7 (9, 0, 0)) = true := by decide +kernel
set_option maxRecDepth 1000000 in
theorem cj_b216_1 : e2_idh 4 8 h_b216_1 = true := by decide +kernel
noncomputable def cl_b216_2 : List (Nat × e2_S) := [(154, e2_cutL (al_b216_2.set 7 (13, 12, 2147491648)) 4 (E_b216_2.take 4) h_b216_2)]
set_option maxRecDepth 1000000 in
theorem ck_b216_2 : e2_runM (e2_cal S_b216 I_b216 4000 2) (e2_fin rs_b216) e2x_269 (e2_bpL cl_b216_2) (e2_cutA cl_b216_2) 4000 (e2_seek e2x_269 154) al_b216_2 [] E_b216_2 h_b216_2 = true := by decide +kernel
set_option maxRecDepth 1000000 in
theorem ci_b216_2 : e2_idl 4 (al_b216_2.set 7 (9, 0, 0)) = true := by decide +kernel
set_option maxRecDepth 1000000 in
theorem cj_b216_2 : e2_idh 4 8 h_b216_2 = true := by decide +kernel
theorem cs_b216 (hen : en_ok) (l : Launch) (hh : e2_hand_b l) : e2_smOk l 65 s_b216 := by
  refine e2_conG (H := 62) (n := 2) (C := evd_269) (S := S_b216) (I := I_b216) (fuel := 4000) hen ei_269 (e2_fa ((hh _ hm_b2).mono (by decide)) (e2_fa (cs_b22 hen l hh) (e2_fa ((cs_b207 hen l).mono (by decide)) (e2_fa ((cs_b208 hen l).mono (by decide)) (e2_fa ((cs_b209 hen l).mono (by decide)) (e2_fa ((cs_b210 hen l).mono (by decide)) (e2_fa ((cs_b211 hen l).mono (by decide)) (e2_fa ((cs_b212 hen l).mono (by decide)) e2_fz)))))))) (e2_fa ein_212 (e2_fa ein_216 (e2_fa ein_217 (e2_fa ein_219 e2_fz)))) (by decide) co_b216 fun M d _ hC hcall p e R s m args below meth c Q D cA A ads r0 ha hl0 => ?_
  have L_0 : e2_gdM M p l e R s m args below meth c Q D cA A ads r0 154 al_b216_0 [] E_b216_0 h_b216_0 := by
    refine e2_indL (u := 4) (j := 7) (lo := 2147483648) (hi := 2147483668) (b := 4) (dd := 0) hl0 (by decide) rfl rfl (Or.inr ⟨rfl, rfl⟩) rfl ci_b216_0 cj_b216_0 ?_
    intro r_0 k_0 hk_0 hp_0 hs_0 hn_0
    have hl_0 : r_0.length ≤ 5 := hs_0.len rfl
    have ha_0 := ha.ext hp_0
    exact e2_fromM hen ha_0 hcall (e2_cutA_ok (e2_fa (fun al st E h hc => hn_0 al st E h hc) e2_fz)) (hC []) (X := e2x_269) ex2_269 154 ck_b216_0
  have EN_0 := e2_entL (u := 4) (j := 7) (lo := 2147483648) (hi := 2147483668) hl0 rfl rfl rfl ci_b216_0 cj_b216_0 L_0
  have L_1 : e2_gdM M p l e R s m args below meth c Q D cA A ads r0 154 al_b216_1 [] E_b216_1 h_b216_1 := by
    refine e2_indL (u := 4) (j := 7) (lo := 2147483648) (hi := 2147484048) (b := 4) (dd := 0) hl0 (by decide) rfl rfl (Or.inr ⟨rfl, rfl⟩) rfl ci_b216_1 cj_b216_1 ?_
    intro r_1 k_1 hk_1 hp_1 hs_1 hn_1
    have hl_1 : r_1.length ≤ 5 := hs_1.len rfl
    have ha_1 := ha.ext hp_1
    exact e2_fromM hen ha_1 hcall (e2_cutA_ok (e2_fa (fun al st E h hc => hn_1 al st E h hc) e2_fz)) (hC []) (X := e2x_269) ex2_269 154 ck_b216_1
  have EN_1 := e2_entL (u := 4) (j := 7) (lo := 2147483648) (hi := 2147484048) hl0 rfl rfl rfl ci_b216_1 cj_b216_1 L_1
  have L_2 : e2_gdM M p l e R s m args below meth c Q D cA A ads r0 154 al_b216_2 [] E_b216_2 h_b216_2 := by
    refine e2_indL (u := 4) (j := 7) (lo := 2147483648) (hi := 2147491648) (b := 4) (dd := 0) hl0 (by decide) rfl rfl (Or.inr ⟨rfl, rfl⟩) rfl ci_b216_2 cj_b216_2 ?_
    intro r_2 k_2 hk_2 hp_2 hs_2 hn_2
    have hl_2 : r_2.length ≤ 5 := hs_2.len rfl
    have ha_2 := ha.ext hp_2
    exact e2_fromM hen ha_2 hcall (e2_cutA_ok (e2_fa (fun al st E h hc => hn_2 al st E h hc) e2_fz)) (hC []) (X := e2x_269) ex2_269 154 ck_b216_2
  have EN_2 := e2_entL (u := 4) (j := 7) (lo := 2147483648) (hi := 2147491648) hl0 rfl rfl rfl ci_b216_2 cj_b216_2 L_2
  exact e2_from hen ha hcall (e2_cutA_ok (e2_fa (fun al st E h hc => EN_0 al st E h hc) (e2_fa (fun al st E h hc => EN_1 al st E h hc) (e2_fa (fun al st E h hc => EN_2 al st E h hc) e2_fz)))) (hC []) (X := e2x_269) ex2_269 0 ck_b216_e
