/-! CONTRACTS d, printed by a program -/
/-! d173 X10_weight -/
def as_d173 : List ev_V := [(2, 83, 0)]
def E_d173 : e2_E := [(2147483648, 2147583648, 0, 0), (2147483648, 2147483656, 1, 0), (2147483648, 2147483688, 2, 0), (2147483648, 2147483688, 3, 0)]
noncomputable def f_d173 : ev_H := (dn1542 : e2_Q8)
noncomputable def q_d173_0 : ev_H := (dn1542 : e2_Q8)
noncomputable def rs_d173 : e2_Rs := [((11, 0, 4294967295), q_d173_0)]
noncomputable def s_d173 : e2_Sm := (252, as_d173, E_d173, f_d173, rs_d173)
noncomputable def S_d173 : List e2_Sm := [s_d126]
noncomputable def I_d173 : List e2_In := [(227, 2, e2x_227)]
set_option maxRecDepth 1000000 in
theorem ck_d173 : e2_run (e2_cal S_d173 I_d173 4000 1) (e2_fin rs_d173) e2x_252 (fun _ => false) (fun _ _ _ _ _ => false) 4000 (e2_seek e2x_252 0) (e2_al 1 as_d173) [] E_d173 f_d173 = true := by decide +kernel
set_option maxRecDepth 1000000 in
theorem co_d173 : e2_okSB E_d173.length as_d173 f_d173 rs_d173 = true := by decide +kernel
theorem cs_d173 (hen : en_ok) (l : Launch) (hh : e2_hand_d l) : e2_smOk l 65 s_d173 := e2_con0 (H := 63) (n := 1) (C := evd_252) (S := S_d173) (I := I_d173) (fuel := 4000) [] hen ei_252 (e2_fa (cs_d126 hen l hh) e2_fz) (e2_fa ein_227 e2_fz) (by decide) co_d173 ex2_252 ck_d173
/-! d174 X10_weight -/
def as_d174 : List ev_V := [(2, 83, 0)]
def E_d174 : e2_E := [(2147483648, 2147583648, 0, 0), (2147483648, 2147483656, 1, 0), (2147483648, 2147483688, 2, 0), (2147483648, 2147483688, 3, 0)]
noncomputable def f_d174 : ev_H := (dn1550 : e2_Q8)
noncomputable def q_d174_0 : ev_H := (dn1550 : e2_Q8)
noncomputable def rs_d174 : e2_Rs := [((11, 0, 4294967295), q_d174_0)]
noncomputable def s_d174 : e2_Sm := (252, as_d174, E_d174, f_d174, rs_d174)
noncomputable def S_d174 : List e2_Sm := [s_d128]
noncomputable def I_d174 : List e2_In := [(227, 2, e2x_227)]
set_option maxRecDepth 1000000 in
theorem ck_d174 : e2_run (e2_cal S_d174 I_d174 4000 1) (e2_fin rs_d174) e2x_252 (fun _ => false) (fun _ _ _ _ _ => false) 4000 (e2_seek e2x_252 0) (e2_al 1 as_d174) [] E_d174 f_d174 = true := by decide +kernel
set_option maxRecDepth 1000000 in
theorem co_d174 : e2_okSB E_d174.length as_d174 f_d174 rs_d174 = true := by decide +kernel
theorem cs_d174 (hen : en_ok) (l : Launch) : e2_smOk l 8 s_d174 := e2_con0 (H := 6) (n := 1) (C := evd_252) (S := S_d174) (I := I_d174) (fuel := 4000) [] hen ei_252 (e2_fa (cs_d128 hen l) e2_fz) (e2_fa ein_227 e2_fz) (by decide) co_d174 ex2_252 ck_d174
/-! d175 X10_weight -/
def as_d175 : List ev_V := [(2, 83, 0)]
def E_d175 : e2_E := [(2147483648, 2147583648, 0, 0), (2147483648, 2147483656, 1, 0), (2147483648, 2147483688, 2, 0), (2147483648, 2147483688, 3, 0)]
noncomputable def f_d175 : ev_H := (dn1559 : e2_Q8)
noncomputable def q_d175_0 : ev_H := (dn1559 : e2_Q8)
noncomputable def rs_d175 : e2_Rs := [((11, 0, 4294967295), q_d175_0)]
noncomputable def s_d175 : e2_Sm := (252, as_d175, E_d175, f_d175, rs_d175)
noncomputable def S_d175 : List e2_Sm := [s_d130]
noncomputable def I_d175 : List e2_In := [(227, 2, e2x_227)]
set_option maxRecDepth 1000000 in
theorem ck_d175 : e2_run (e2_cal S_d175 I_d175 4000 1) (e2_fin rs_d175) e2x_252 (fun _ => false) (fun _ _ _ _ _ => false) 4000 (e2_seek e2x_252 0) (e2_al 1 as_d175) [] E_d175 f_d175 = true := by decide +kernel
set_option maxRecDepth 1000000 in
theorem co_d175 : e2_okSB E_d175.length as_d175 f_d175 rs_d175 = true := by decide +kernel
theorem cs_d175 (hen : en_ok) (l : Launch) (hh : e2_hand_d l) : e2_smOk l 65 s_d175 := e2_con0 (H := 63) (n := 1) (C := evd_252) (S := S_d175) (I := I_d175) (fuel := 4000) [] hen ei_252 (e2_fa (cs_d130 hen l hh) e2_fz) (e2_fa ein_227 e2_fz) (by decide) co_d175 ex2_252 ck_d175
/-! d176 X10_does -/
def as_d176 : List ev_V := [(2, 83, 0), (11, 0, 4294967295)]
def E_d176 : e2_E := [(2147483648, 2147583648, 0, 0), (2147483648, 2147483656, 1, 0), (2147483648, 2147483688, 2, 0), (2147483648, 2147483688, 3, 0)]
def dc213 : ev_C := (50, [(11, 2147483648, 2147483652), (11, 2147483648, 2147483652)])
def dn1655 : e2_Q1 := (dc213, dc3)
def dn1656 : e2_Q2 := (dn228, dn1655)
def dn1657 : e2_Q3 := (dn1656, dn233)
def dn1658 : e2_Q4 := (dn227, dn1657)
def dn1659 : e2_Q5 := (dn1658, dn250)
def dn1660 : e2_Q6 := (dn1579, dn1659)
def dn1661 : e2_Q7 := (dn1019, dn1660)
def dn1662 : e2_Q8 := (dn1521, dn1661)
noncomputable def f_d176 : ev_H := (dn1662 : e2_Q8)
noncomputable def q_d176_0 : ev_H := (dn1662 : e2_Q8)
noncomputable def rs_d176 : e2_Rs := [((11, 0, 4294967295), q_d176_0)]
noncomputable def s_d176 : e2_Sm := (253, as_d176, E_d176, f_d176, rs_d176)
noncomputable def S_d176 : List e2_Sm := [s_d124, s_d132]
noncomputable def I_d176 : List e2_In := [(212, 3, e2x_212), (220, 2, e2x_220)]
set_option maxRecDepth 1000000 in
theorem ck_d176 : e2_run (e2_cal S_d176 I_d176 4000 2) (e2_fin rs_d176) e2x_253 (fun _ => false) (fun _ _ _ _ _ => false) 4000 (e2_seek e2x_253 0) (e2_al 2 as_d176) [] E_d176 f_d176 = true := by decide +kernel
set_option maxRecDepth 1000000 in
theorem co_d176 : e2_okSB E_d176.length as_d176 f_d176 rs_d176 = true := by decide +kernel
theorem cs_d176 (hen : en_ok) (l : Launch) : e2_smOk l 9 s_d176 := e2_con0 (H := 6) (n := 2) (C := evd_253) (S := S_d176) (I := I_d176) (fuel := 4000) [] hen ei_253 (e2_fa (cs_d124 hen l) (e2_fa ((cs_d132 hen l).mono (by decide)) e2_fz)) (e2_fa ein_212 (e2_fa ein_220 e2_fz)) (by decide) co_d176 ex2_253 ck_d176
/-! d177 X10_does -/
def as_d177 : List ev_V := [(2, 83, 0), (11, 0, 4294967295)]
def E_d177 : e2_E := [(2147483648, 2147583648, 0, 0), (2147483648, 2147483656, 1, 0), (2147483648, 2147483688, 2, 0), (2147483648, 2147483688, 3, 0)]
def dn1663 : e2_Q5 := (dn1658, dn311)
def dn1664 : e2_Q6 := (dn1583, dn1663)
def dn1665 : e2_Q7 := (dn1537, dn1664)
def dn1666 : e2_Q8 := (dn1534, dn1665)
noncomputable def f_d177 : ev_H := (dn1666 : e2_Q8)
noncomputable def q_d177_0 : ev_H := (dn1666 : e2_Q8)
noncomputable def rs_d177 : e2_Rs := [((11, 0, 4294967295), q_d177_0)]
noncomputable def s_d177 : e2_Sm := (253, as_d177, E_d177, f_d177, rs_d177)
noncomputable def S_d177 : List e2_Sm := [s_d126, s_d132]
noncomputable def I_d177 : List e2_In := [(212, 3, e2x_212), (220, 2, e2x_220)]
set_option maxRecDepth 1000000 in
theorem ck_d177 : e2_run (e2_cal S_d177 I_d177 4000 2) (e2_fin rs_d177) e2x_253 (fun _ => false) (fun _ _ _ _ _ => false) 4000 (e2_seek e2x_253 0) (e2_al 2 as_d177) [] E_d177 f_d177 = true := by decide +kernel
set_option maxRecDepth 1000000 in
theorem co_d177 : e2_okSB E_d177.length as_d177 f_d177 rs_d177 = true := by decide +kernel
theorem cs_d177 (hen : en_ok) (l : Launch) (hh : e2_hand_d l) : e2_smOk l 66 s_d177 := e2_con0 (H := 63) (n := 2) (C := evd_253) (S := S_d177) (I := I_d177) (fuel := 4000) [] hen ei_253 (e2_fa (cs_d126 hen l hh) (e2_fa ((cs_d132 hen l).mono (by decide)) e2_fz)) (e2_fa ein_212 (e2_fa ein_220 e2_fz)) (by decide) co_d177 ex2_253 ck_d177
/-! d178 X10_does -/
def as_d178 : List ev_V := [(2, 83, 0), (11, 0, 4294967295)]
def E_d178 : e2_E := [(2147483648, 2147583648, 0, 0), (2147483648, 2147483656, 1, 0), (2147483648, 2147483688, 2, 0), (2147483648, 2147483688, 3, 0)]
def dn1667 : e2_Q8 := (dn1549, dn1661)
noncomputable def f_d178 : ev_H := (dn1667 : e2_Q8)
noncomputable def q_d178_0 : ev_H := (dn1667 : e2_Q8)
noncomputable def rs_d178 : e2_Rs := [((11, 0, 4294967295), q_d178_0)]
noncomputable def s_d178 : e2_Sm := (253, as_d178, E_d178, f_d178, rs_d178)
noncomputable def S_d178 : List e2_Sm := [s_d128, s_d132]
noncomputable def I_d178 : List e2_In := [(212, 3, e2x_212), (220, 2, e2x_220)]
set_option maxRecDepth 1000000 in
theorem ck_d178 : e2_run (e2_cal S_d178 I_d178 4000 2) (e2_fin rs_d178) e2x_253 (fun _ => false) (fun _ _ _ _ _ => false) 4000 (e2_seek e2x_253 0) (e2_al 2 as_d178) [] E_d178 f_d178 = true := by decide +kernel
set_option maxRecDepth 1000000 in
theorem co_d178 : e2_okSB E_d178.length as_d178 f_d178 rs_d178 = true := by decide +kernel
theorem cs_d178 (hen : en_ok) (l : Launch) : e2_smOk l 9 s_d178 := e2_con0 (H := 6) (n := 2) (C := evd_253) (S := S_d178) (I := I_d178) (fuel := 4000) [] hen ei_253 (e2_fa (cs_d128 hen l) (e2_fa ((cs_d132 hen l).mono (by decide)) e2_fz)) (e2_fa ein_212 (e2_fa ein_220 e2_fz)) (by decide) co_d178 ex2_253 ck_d178
/-! d179 X10_does -/
def as_d179 : List ev_V := [(2, 83, 0), (11, 0, 4294967295)]
def E_d179 : e2_E := [(2147483648, 2147583648, 0, 0), (2147483648, 2147483656, 1, 0), (2147483648, 2147483688, 2, 0), (2147483648, 2147483688, 3, 0)]
def dn1668 : e2_Q6 := (dn1588, dn1663)
def dn1669 : e2_Q7 := (dn1537, dn1668)
def dn1670 : e2_Q8 := (dn1554, dn1669)
noncomputable def f_d179 : ev_H := (dn1670 : e2_Q8)
noncomputable def q_d179_0 : ev_H := (dn1670 : e2_Q8)
noncomputable def rs_d179 : e2_Rs := [((11, 0, 4294967295), q_d179_0)]
noncomputable def s_d179 : e2_Sm := (253, as_d179, E_d179, f_d179, rs_d179)
noncomputable def S_d179 : List e2_Sm := [s_d130, s_d132]
noncomputable def I_d179 : List e2_In := [(212, 3, e2x_212), (220, 2, e2x_220)]
set_option maxRecDepth 1000000 in
theorem ck_d179 : e2_run (e2_cal S_d179 I_d179 4000 2) (e2_fin rs_d179) e2x_253 (fun _ => false) (fun _ _ _ _ _ => false) 4000 (e2_seek e2x_253 0) (e2_al 2 as_d179) [] E_d179 f_d179 = true := by decide +kernel
set_option maxRecDepth 1000000 in
theorem co_d179 : e2_okSB E_d179.length as_d179 f_d179 rs_d179 = true := by decide +kernel
theorem cs_d179 (hen : en_ok) (l : Launch) (hh : e2_hand_d l) : e2_smOk l 66 s_d179 := e2_con0 (H := 63) (n := 2) (C := evd_253) (S := S_d179) (I := I_d179) (fuel := 4000) [] hen ei_253 (e2_fa (cs_d130 hen l hh) (e2_fa ((cs_d132 hen l).mono (by decide)) e2_fz)) (e2_fa ein_212 (e2_fa ein_220 e2_fz)) (by decide) co_d179 ex2_253 ck_d179
/-! d180 X10_goYears -/
def as_d180 : List ev_V := [(2, 83, 0), (11, 2147483648, 2147483708)]
def E_d180 : e2_E := [(2147483648, 2147583648, 0, 0), (2147483648, 2147483656, 1, 0), (2147483648, 2147483688, 2, 0), (2147483648, 2147483688, 3, 0)]
def dn1671 : e2_Q2 := (dn25, dn11)
def dn1672 : e2_Q3 := (dn369, dn1671)
def dn1673 : e2_Q4 := (dn367, dn1672)
def dn1674 : e2_Q5 := (dn1515, dn1673)
def dn1675 : e2_Q6 := (dn1674, dn475)
def dn1676 : e2_Q7 := (dn1675, dn1520)
def dn1677 : e2_Q8 := (dn1676, dn1581)
noncomputable def f_d180 : ev_H := (dn1677 : e2_Q8)
noncomputable def q_d180_0 : ev_H := (dn1677 : e2_Q8)
noncomputable def rs_d180 : e2_Rs := [((9, 0, 0), q_d180_0)]
noncomputable def s_d180 : e2_Sm := (254, as_d180, E_d180, f_d180, rs_d180)
noncomputable def S_d180 : List e2_Sm := [s_d153]
noncomputable def I_d180 : List e2_In := []
set_option maxRecDepth 1000000 in
theorem co_d180 : e2_okSB E_d180.length as_d180 f_d180 rs_d180 = true := by decide +kernel
def al_d180_0 : List ev_V := [(2, 83, 0), (11, 2147483648, 2147483708), (1, 4, 4294967296)]
def E_d180_0 : e2_E := [(2147483648, 2147583648, 0, 0), (2147483648, 2147483656, 1, 0), (2147483648, 2147483688, 2, 0), (2147483648, 2147483688, 3, 0), (2147483648, 2147483674, 4, 0)]
noncomputable def h_d180_0 : ev_H := (dn1677 : e2_Q8)
def al_d180_1 : List ev_V := [(2, 83, 0), (11, 2147483648, 2147483708), (1, 4, 4294967296)]
def E_d180_1 : e2_E := [(2147483648, 2147583648, 0, 0), (2147483648, 2147483656, 1, 0), (2147483648, 2147483688, 2, 0), (2147483648, 2147483688, 3, 0), (2147483648, 2147483708, 4, 0)]
noncomputable def h_d180_1 : ev_H := (dn1677 : e2_Q8)
noncomputable def cl_d180_e : List (Nat × e2_S) := [(2, e2_cutL (al_d180_0.set 2 (11, 2147483648, 2147483674)) 4 (E_d180_0.take 4) h_d180_0)]
set_option maxRecDepth 1000000 in
theorem ck_d180_e : e2_run (e2_cal S_d180 I_d180 4000 0) (e2_fin rs_d180) e2x_254 (e2_bpL cl_d180_e) (e2_cutA cl_d180_e) 4000 (e2_seek e2x_254 0) (e2_al 3 as_d180) [] E_d180 f_d180 = true := by decide +kernel
noncomputable def cl_d180_0 : List (Nat × e2_S) := [(2, e2_cutL (al_d180_0.set 2 (13, 12, 2147483674)) 4 (E_d180_0.take 4) h_d180_0),
  (28, e2_cutL (al_d180_1.set 2 (11, 2147483648, 2147483708)) 4 (E_d180_1.take 4) h_d180_1)]
set_option maxRecDepth 1000000 in
theorem ck_d180_0 : e2_runM (e2_cal S_d180 I_d180 4000 0) (e2_fin rs_d180) e2x_254 (e2_bpL cl_d180_0) (e2_cutA cl_d180_0) 4000 (e2_seek e2x_254 2) al_d180_0 [] E_d180_0 h_d180_0 = true := by decide +kernel
set_option maxRecDepth 1000000 in
theorem ci_d180_0 : e2_idl 4 (al_d180_0.set 2 (9, 0, 0)) = true := by decide +kernel
set_option maxRecDepth 1000000 in
theorem cj_d180_0 : e2_idh 4 8 h_d180_0 = true := by decide +kernel
noncomputable def cl_d180_1 : List (Nat × e2_S) := [(28, e2_cutL (al_d180_1.set 2 (13, 12, 2147483708)) 4 (E_d180_1.take 4) h_d180_1)]
set_option maxRecDepth 1000000 in
theorem ck_d180_1 : e2_runM (e2_cal S_d180 I_d180 4000 0) (e2_fin rs_d180) e2x_254 (e2_bpL cl_d180_1) (e2_cutA cl_d180_1) 4000 (e2_seek e2x_254 28) al_d180_1 [] E_d180_1 h_d180_1 = true := by decide +kernel
set_option maxRecDepth 1000000 in
theorem ci_d180_1 : e2_idl 4 (al_d180_1.set 2 (9, 0, 0)) = true := by decide +kernel
set_option maxRecDepth 1000000 in
theorem cj_d180_1 : e2_idh 4 8 h_d180_1 = true := by decide +kernel
theorem cs_d180 (hen : en_ok) (l : Launch) : e2_smOk l 9 s_d180 := by
  refine e2_conG (H := 8) (n := 0) (C := evd_254) (S := S_d180) (I := I_d180) (fuel := 4000) hen ei_254 (e2_fa (cs_d153 hen l) e2_fz) e2_fz (by decide) co_d180 fun M d _ hC hcall p e R s m args below meth c Q D cA A ads r0 ha hl0 => ?_
  have L_1 : e2_gdM M p l e R s m args below meth c Q D cA A ads r0 28 al_d180_1 [] E_d180_1 h_d180_1 := by
    refine e2_indL (u := 4) (j := 2) (lo := 2147483648) (hi := 2147483708) (b := 4) (dd := 0) hl0 (by decide) rfl rfl (Or.inr ⟨rfl, rfl⟩) rfl ci_d180_1 cj_d180_1 ?_
    intro r_1 k_1 hk_1 hp_1 hs_1 hn_1
    have hl_1 : r_1.length ≤ 5 := hs_1.len rfl
    have ha_1 := ha.ext hp_1
    exact e2_fromM hen ha_1 hcall (e2_cutA_ok (e2_fa (fun al st E h hc => hn_1 al st E h hc) e2_fz)) (hC [12]) (X := e2x_254) ex2_254 28 ck_d180_1
  have EN_1 := e2_entL (u := 4) (j := 2) (lo := 2147483648) (hi := 2147483708) hl0 rfl rfl rfl ci_d180_1 cj_d180_1 L_1
  have L_0 : e2_gdM M p l e R s m args below meth c Q D cA A ads r0 2 al_d180_0 [] E_d180_0 h_d180_0 := by
    refine e2_indL (u := 4) (j := 2) (lo := 2147483648) (hi := 2147483674) (b := 4) (dd := 0) hl0 (by decide) rfl rfl (Or.inr ⟨rfl, rfl⟩) rfl ci_d180_0 cj_d180_0 ?_
    intro r_0 k_0 hk_0 hp_0 hs_0 hn_0
    have hl_0 : r_0.length ≤ 5 := hs_0.len rfl
    have ha_0 := ha.ext hp_0
    exact e2_fromM hen ha_0 hcall (e2_cutA_ok (e2_fa (fun al st E h hc => hn_0 al st E h hc) (e2_fa (fun al st E h hc => (EN_1 al st E h hc).ext hp_0) e2_fz))) (hC [12]) (X := e2x_254) ex2_254 2 ck_d180_0
  have EN_0 := e2_entL (u := 4) (j := 2) (lo := 2147483648) (hi := 2147483674) hl0 rfl rfl rfl ci_d180_0 cj_d180_0 L_0
  exact e2_from hen ha hcall (e2_cutA_ok (e2_fa (fun al st E h hc => EN_0 al st E h hc) e2_fz)) (hC [12]) (X := e2x_254) ex2_254 0 ck_d180_e
/-! d181 X10_goYears -/
def as_d181 : List ev_V := [(2, 83, 0), (11, 2147483648, 2147483708)]
def E_d181 : e2_E := [(2147483648, 2147583648, 0, 0), (2147483648, 2147483656, 1, 0), (2147483648, 2147483688, 2, 0), (2147483648, 2147483688, 3, 0)]
def dn1678 : e2_Q4 := (dn396, dn1672)
def dn1679 : e2_Q5 := (dn1515, dn1678)
def dn1680 : e2_Q6 := (dn1679, dn1531)
def dn1681 : e2_Q7 := (dn1680, dn1533)
def dn1682 : e2_Q8 := (dn1681, dn1585)
noncomputable def f_d181 : ev_H := (dn1682 : e2_Q8)
noncomputable def q_d181_0 : ev_H := (dn1682 : e2_Q8)
noncomputable def rs_d181 : e2_Rs := [((9, 0, 0), q_d181_0)]
noncomputable def s_d181 : e2_Sm := (254, as_d181, E_d181, f_d181, rs_d181)
noncomputable def S_d181 : List e2_Sm := [s_d155]
noncomputable def I_d181 : List e2_In := []
set_option maxRecDepth 1000000 in
theorem co_d181 : e2_okSB E_d181.length as_d181 f_d181 rs_d181 = true := by decide +kernel
def al_d181_0 : List ev_V := [(2, 83, 0), (11, 2147483648, 2147483708), (1, 4, 4294967296)]
def E_d181_0 : e2_E := [(2147483648, 2147583648, 0, 0), (2147483648, 2147483656, 1, 0), (2147483648, 2147483688, 2, 0), (2147483648, 2147483688, 3, 0), (2147483648, 2147483674, 4, 0)]
noncomputable def h_d181_0 : ev_H := (dn1682 : e2_Q8)
def al_d181_1 : List ev_V := [(2, 83, 0), (11, 2147483648, 2147483708), (1, 4, 4294967296)]
def E_d181_1 : e2_E := [(2147483648, 2147583648, 0, 0), (2147483648, 2147483656, 1, 0), (2147483648, 2147483688, 2, 0), (2147483648, 2147483688, 3, 0), (2147483648, 2147483708, 4, 0)]
noncomputable def h_d181_1 : ev_H := (dn1682 : e2_Q8)
noncomputable def cl_d181_e : List (Nat × e2_S) := [(2, e2_cutL (al_d181_0.set 2 (11, 2147483648, 2147483674)) 4 (E_d181_0.take 4) h_d181_0)]
set_option maxRecDepth 1000000 in
theorem ck_d181_e : e2_run (e2_cal S_d181 I_d181 4000 0) (e2_fin rs_d181) e2x_254 (e2_bpL cl_d181_e) (e2_cutA cl_d181_e) 4000 (e2_seek e2x_254 0) (e2_al 3 as_d181) [] E_d181 f_d181 = true := by decide +kernel
noncomputable def cl_d181_0 : List (Nat × e2_S) := [(2, e2_cutL (al_d181_0.set 2 (13, 12, 2147483674)) 4 (E_d181_0.take 4) h_d181_0),
  (28, e2_cutL (al_d181_1.set 2 (11, 2147483648, 2147483708)) 4 (E_d181_1.take 4) h_d181_1)]
set_option maxRecDepth 1000000 in
theorem ck_d181_0 : e2_runM (e2_cal S_d181 I_d181 4000 0) (e2_fin rs_d181) e2x_254 (e2_bpL cl_d181_0) (e2_cutA cl_d181_0) 4000 (e2_seek e2x_254 2) al_d181_0 [] E_d181_0 h_d181_0 = true := by decide +kernel
set_option maxRecDepth 1000000 in
theorem ci_d181_0 : e2_idl 4 (al_d181_0.set 2 (9, 0, 0)) = true := by decide +kernel
set_option maxRecDepth 1000000 in
theorem cj_d181_0 : e2_idh 4 8 h_d181_0 = true := by decide +kernel
noncomputable def cl_d181_1 : List (Nat × e2_S) := [(28, e2_cutL (al_d181_1.set 2 (13, 12, 2147483708)) 4 (E_d181_1.take 4) h_d181_1)]
set_option maxRecDepth 1000000 in
theorem ck_d181_1 : e2_runM (e2_cal S_d181 I_d181 4000 0) (e2_fin rs_d181) e2x_254 (e2_bpL cl_d181_1) (e2_cutA cl_d181_1) 4000 (e2_seek e2x_254 28) al_d181_1 [] E_d181_1 h_d181_1 = true := by decide +kernel
set_option maxRecDepth 1000000 in
theorem ci_d181_1 : e2_idl 4 (al_d181_1.set 2 (9, 0, 0)) = true := by decide +kernel
set_option maxRecDepth 1000000 in
theorem cj_d181_1 : e2_idh 4 8 h_d181_1 = true := by decide +kernel
theorem cs_d181 (hen : en_ok) (l : Launch) (hh : e2_hand_d l) : e2_smOk l 66 s_d181 := by
  refine e2_conG (H := 65) (n := 0) (C := evd_254) (S := S_d181) (I := I_d181) (fuel := 4000) hen ei_254 (e2_fa (cs_d155 hen l hh) e2_fz) e2_fz (by decide) co_d181 fun M d _ hC hcall p e R s m args below meth c Q D cA A ads r0 ha hl0 => ?_
  have L_1 : e2_gdM M p l e R s m args below meth c Q D cA A ads r0 28 al_d181_1 [] E_d181_1 h_d181_1 := by
    refine e2_indL (u := 4) (j := 2) (lo := 2147483648) (hi := 2147483708) (b := 4) (dd := 0) hl0 (by decide) rfl rfl (Or.inr ⟨rfl, rfl⟩) rfl ci_d181_1 cj_d181_1 ?_
    intro r_1 k_1 hk_1 hp_1 hs_1 hn_1
    have hl_1 : r_1.length ≤ 5 := hs_1.len rfl
    have ha_1 := ha.ext hp_1
    exact e2_fromM hen ha_1 hcall (e2_cutA_ok (e2_fa (fun al st E h hc => hn_1 al st E h hc) e2_fz)) (hC [12]) (X := e2x_254) ex2_254 28 ck_d181_1
  have EN_1 := e2_entL (u := 4) (j := 2) (lo := 2147483648) (hi := 2147483708) hl0 rfl rfl rfl ci_d181_1 cj_d181_1 L_1
  have L_0 : e2_gdM M p l e R s m args below meth c Q D cA A ads r0 2 al_d181_0 [] E_d181_0 h_d181_0 := by
    refine e2_indL (u := 4) (j := 2) (lo := 2147483648) (hi := 2147483674) (b := 4) (dd := 0) hl0 (by decide) rfl rfl (Or.inr ⟨rfl, rfl⟩) rfl ci_d181_0 cj_d181_0 ?_
    intro r_0 k_0 hk_0 hp_0 hs_0 hn_0
    have hl_0 : r_0.length ≤ 5 := hs_0.len rfl
    have ha_0 := ha.ext hp_0
    exact e2_fromM hen ha_0 hcall (e2_cutA_ok (e2_fa (fun al st E h hc => hn_0 al st E h hc) (e2_fa (fun al st E h hc => (EN_1 al st E h hc).ext hp_0) e2_fz))) (hC [12]) (X := e2x_254) ex2_254 2 ck_d181_0
  have EN_0 := e2_entL (u := 4) (j := 2) (lo := 2147483648) (hi := 2147483674) hl0 rfl rfl rfl ci_d181_0 cj_d181_0 L_0
  exact e2_from hen ha hcall (e2_cutA_ok (e2_fa (fun al st E h hc => EN_0 al st E h hc) e2_fz)) (hC [12]) (X := e2x_254) ex2_254 0 ck_d181_e
/-! d182 X10_goYears -/
def as_d182 : List ev_V := [(2, 83, 0), (11, 2147483648, 2147483708)]
def E_d182 : e2_E := [(2147483648, 2147583648, 0, 0), (2147483648, 2147483656, 1, 0), (2147483648, 2147483688, 2, 0), (2147483648, 2147483688, 3, 0)]
def dn1683 : e2_Q4 := (dn411, dn1672)
def dn1684 : e2_Q5 := (dn1515, dn1683)
def dn1685 : e2_Q6 := (dn1684, dn1531)
def dn1686 : e2_Q7 := (dn1685, dn1533)
def dn1687 : e2_Q8 := (dn1686, dn1617)
noncomputable def f_d182 : ev_H := (dn1687 : e2_Q8)
noncomputable def q_d182_0 : ev_H := (dn1687 : e2_Q8)
noncomputable def rs_d182 : e2_Rs := [((9, 0, 0), q_d182_0)]
noncomputable def s_d182 : e2_Sm := (254, as_d182, E_d182, f_d182, rs_d182)
noncomputable def S_d182 : List e2_Sm := [s_d157]
noncomputable def I_d182 : List e2_In := []
set_option maxRecDepth 1000000 in
theorem co_d182 : e2_okSB E_d182.length as_d182 f_d182 rs_d182 = true := by decide +kernel
def al_d182_0 : List ev_V := [(2, 83, 0), (11, 2147483648, 2147483708), (1, 4, 4294967296)]
def E_d182_0 : e2_E := [(2147483648, 2147583648, 0, 0), (2147483648, 2147483656, 1, 0), (2147483648, 2147483688, 2, 0), (2147483648, 2147483688, 3, 0), (2147483648, 2147483674, 4, 0)]
noncomputable def h_d182_0 : ev_H := (dn1687 : e2_Q8)
def al_d182_1 : List ev_V := [(2, 83, 0), (11, 2147483648, 2147483708), (1, 4, 4294967296)]
def E_d182_1 : e2_E := [(2147483648, 2147583648, 0, 0), (2147483648, 2147483656, 1, 0), (2147483648, 2147483688, 2, 0), (2147483648, 2147483688, 3, 0), (2147483648, 2147483708, 4, 0)]
noncomputable def h_d182_1 : ev_H := (dn1687 : e2_Q8)
noncomputable def cl_d182_e : List (Nat × e2_S) := [(2, e2_cutL (al_d182_0.set 2 (11, 2147483648, 2147483674)) 4 (E_d182_0.take 4) h_d182_0)]
set_option maxRecDepth 1000000 in
theorem ck_d182_e : e2_run (e2_cal S_d182 I_d182 4000 0) (e2_fin rs_d182) e2x_254 (e2_bpL cl_d182_e) (e2_cutA cl_d182_e) 4000 (e2_seek e2x_254 0) (e2_al 3 as_d182) [] E_d182 f_d182 = true := by decide +kernel
noncomputable def cl_d182_0 : List (Nat × e2_S) := [(2, e2_cutL (al_d182_0.set 2 (13, 12, 2147483674)) 4 (E_d182_0.take 4) h_d182_0),
  (28, e2_cutL (al_d182_1.set 2 (11, 2147483648, 2147483708)) 4 (E_d182_1.take 4) h_d182_1)]
set_option maxRecDepth 1000000 in
theorem ck_d182_0 : e2_runM (e2_cal S_d182 I_d182 4000 0) (e2_fin rs_d182) e2x_254 (e2_bpL cl_d182_0) (e2_cutA cl_d182_0) 4000 (e2_seek e2x_254 2) al_d182_0 [] E_d182_0 h_d182_0 = true := by decide +kernel
set_option maxRecDepth 1000000 in
theorem ci_d182_0 : e2_idl 4 (al_d182_0.set 2 (9, 0, 0)) = true := by decide +kernel
set_option maxRecDepth 1000000 in
theorem cj_d182_0 : e2_idh 4 8 h_d182_0 = true := by decide +kernel
noncomputable def cl_d182_1 : List (Nat × e2_S) := [(28, e2_cutL (al_d182_1.set 2 (13, 12, 2147483708)) 4 (E_d182_1.take 4) h_d182_1)]
set_option maxRecDepth 1000000 in
theorem ck_d182_1 : e2_runM (e2_cal S_d182 I_d182 4000 0) (e2_fin rs_d182) e2x_254 (e2_bpL cl_d182_1) (e2_cutA cl_d182_1) 4000 (e2_seek e2x_254 28) al_d182_1 [] E_d182_1 h_d182_1 = true := by decide +kernel
set_option maxRecDepth 1000000 in
theorem ci_d182_1 : e2_idl 4 (al_d182_1.set 2 (9, 0, 0)) = true := by decide +kernel
set_option maxRecDepth 1000000 in
theorem cj_d182_1 : e2_idh 4 8 h_d182_1 = true := by decide +kernel
theorem cs_d182 (hen : en_ok) (l : Launch) (hh : e2_hand_d l) : e2_smOk l 63 s_d182 := by
  refine e2_conG (H := 62) (n := 0) (C := evd_254) (S := S_d182) (I := I_d182) (fuel := 4000) hen ei_254 (e2_fa (cs_d157 hen l hh) e2_fz) e2_fz (by decide) co_d182 fun M d _ hC hcall p e R s m args below meth c Q D cA A ads r0 ha hl0 => ?_
  have L_1 : e2_gdM M p l e R s m args below meth c Q D cA A ads r0 28 al_d182_1 [] E_d182_1 h_d182_1 := by
    refine e2_indL (u := 4) (j := 2) (lo := 2147483648) (hi := 2147483708) (b := 4) (dd := 0) hl0 (by decide) rfl rfl (Or.inr ⟨rfl, rfl⟩) rfl ci_d182_1 cj_d182_1 ?_
    intro r_1 k_1 hk_1 hp_1 hs_1 hn_1
    have hl_1 : r_1.length ≤ 5 := hs_1.len rfl
    have ha_1 := ha.ext hp_1
    exact e2_fromM hen ha_1 hcall (e2_cutA_ok (e2_fa (fun al st E h hc => hn_1 al st E h hc) e2_fz)) (hC [12]) (X := e2x_254) ex2_254 28 ck_d182_1
  have EN_1 := e2_entL (u := 4) (j := 2) (lo := 2147483648) (hi := 2147483708) hl0 rfl rfl rfl ci_d182_1 cj_d182_1 L_1
  have L_0 : e2_gdM M p l e R s m args below meth c Q D cA A ads r0 2 al_d182_0 [] E_d182_0 h_d182_0 := by
    refine e2_indL (u := 4) (j := 2) (lo := 2147483648) (hi := 2147483674) (b := 4) (dd := 0) hl0 (by decide) rfl rfl (Or.inr ⟨rfl, rfl⟩) rfl ci_d182_0 cj_d182_0 ?_
    intro r_0 k_0 hk_0 hp_0 hs_0 hn_0
    have hl_0 : r_0.length ≤ 5 := hs_0.len rfl
    have ha_0 := ha.ext hp_0
    exact e2_fromM hen ha_0 hcall (e2_cutA_ok (e2_fa (fun al st E h hc => hn_0 al st E h hc) (e2_fa (fun al st E h hc => (EN_1 al st E h hc).ext hp_0) e2_fz))) (hC [12]) (X := e2x_254) ex2_254 2 ck_d182_0
  have EN_0 := e2_entL (u := 4) (j := 2) (lo := 2147483648) (hi := 2147483674) hl0 rfl rfl rfl ci_d182_0 cj_d182_0 L_0
  exact e2_from hen ha hcall (e2_cutA_ok (e2_fa (fun al st E h hc => EN_0 al st E h hc) e2_fz)) (hC [12]) (X := e2x_254) ex2_254 0 ck_d182_e
/-! d183 X10_goYears -/
def as_d183 : List ev_V := [(2, 83, 0), (11, 2147483648, 2147483708)]
def E_d183 : e2_E := [(2147483648, 2147583648, 0, 0), (2147483648, 2147483656, 1, 0), (2147483648, 2147483688, 2, 0), (2147483648, 2147483688, 3, 0)]
def dn1688 : e2_Q4 := (dn420, dn1672)
def dn1689 : e2_Q5 := (dn1515, dn1688)
def dn1690 : e2_Q6 := (dn1689, dn1531)
def dn1691 : e2_Q7 := (dn1690, dn1533)
def dn1692 : e2_Q8 := (dn1691, dn1590)
noncomputable def f_d183 : ev_H := (dn1692 : e2_Q8)
noncomputable def q_d183_0 : ev_H := (dn1692 : e2_Q8)
noncomputable def rs_d183 : e2_Rs := [((9, 0, 0), q_d183_0)]
noncomputable def s_d183 : e2_Sm := (254, as_d183, E_d183, f_d183, rs_d183)
noncomputable def S_d183 : List e2_Sm := [s_d159]
noncomputable def I_d183 : List e2_In := []
set_option maxRecDepth 1000000 in
theorem co_d183 : e2_okSB E_d183.length as_d183 f_d183 rs_d183 = true := by decide +kernel
def al_d183_0 : List ev_V := [(2, 83, 0), (11, 2147483648, 2147483708), (1, 4, 4294967296)]
def E_d183_0 : e2_E := [(2147483648, 2147583648, 0, 0), (2147483648, 2147483656, 1, 0), (2147483648, 2147483688, 2, 0), (2147483648, 2147483688, 3, 0), (2147483648, 2147483674, 4, 0)]
noncomputable def h_d183_0 : ev_H := (dn1692 : e2_Q8)
def al_d183_1 : List ev_V := [(2, 83, 0), (11, 2147483648, 2147483708), (1, 4, 4294967296)]
def E_d183_1 : e2_E := [(2147483648, 2147583648, 0, 0), (2147483648, 2147483656, 1, 0), (2147483648, 2147483688, 2, 0), (2147483648, 2147483688, 3, 0), (2147483648, 2147483708, 4, 0)]
noncomputable def h_d183_1 : ev_H := (dn1692 : e2_Q8)
noncomputable def cl_d183_e : List (Nat × e2_S) := [(2, e2_cutL (al_d183_0.set 2 (11, 2147483648, 2147483674)) 4 (E_d183_0.take 4) h_d183_0)]
set_option maxRecDepth 1000000 in
theorem ck_d183_e : e2_run (e2_cal S_d183 I_d183 4000 0) (e2_fin rs_d183) e2x_254 (e2_bpL cl_d183_e) (e2_cutA cl_d183_e) 4000 (e2_seek e2x_254 0) (e2_al 3 as_d183) [] E_d183 f_d183 = true := by decide +kernel
noncomputable def cl_d183_0 : List (Nat × e2_S) := [(2, e2_cutL (al_d183_0.set 2 (13, 12, 2147483674)) 4 (E_d183_0.take 4) h_d183_0),
  (28, e2_cutL (al_d183_1.set 2 (11, 2147483648, 2147483708)) 4 (E_d183_1.take 4) h_d183_1)]
set_option maxRecDepth 1000000 in
theorem ck_d183_0 : e2_runM (e2_cal S_d183 I_d183 4000 0) (e2_fin rs_d183) e2x_254 (e2_bpL cl_d183_0) (e2_cutA cl_d183_0) 4000 (e2_seek e2x_254 2) al_d183_0 [] E_d183_0 h_d183_0 = true := by decide +kernel
set_option maxRecDepth 1000000 in
theorem ci_d183_0 : e2_idl 4 (al_d183_0.set 2 (9, 0, 0)) = true := by decide +kernel
set_option maxRecDepth 1000000 in
theorem cj_d183_0 : e2_idh 4 8 h_d183_0 = true := by decide +kernel
noncomputable def cl_d183_1 : List (Nat × e2_S) := [(28, e2_cutL (al_d183_1.set 2 (13, 12, 2147483708)) 4 (E_d183_1.take 4) h_d183_1)]
set_option maxRecDepth 1000000 in
theorem ck_d183_1 : e2_runM (e2_cal S_d183 I_d183 4000 0) (e2_fin rs_d183) e2x_254 (e2_bpL cl_d183_1) (e2_cutA cl_d183_1) 4000 (e2_seek e2x_254 28) al_d183_1 [] E_d183_1 h_d183_1 = true := by decide +kernel
set_option maxRecDepth 1000000 in
theorem ci_d183_1 : e2_idl 4 (al_d183_1.set 2 (9, 0, 0)) = true := by decide +kernel
set_option maxRecDepth 1000000 in
theorem cj_d183_1 : e2_idh 4 8 h_d183_1 = true := by decide +kernel
theorem cs_d183 (hen : en_ok) (l : Launch) (hh : e2_hand_d l) : e2_smOk l 66 s_d183 := by
  refine e2_conG (H := 65) (n := 0) (C := evd_254) (S := S_d183) (I := I_d183) (fuel := 4000) hen ei_254 (e2_fa (cs_d159 hen l hh) e2_fz) e2_fz (by decide) co_d183 fun M d _ hC hcall p e R s m args below meth c Q D cA A ads r0 ha hl0 => ?_
  have L_1 : e2_gdM M p l e R s m args below meth c Q D cA A ads r0 28 al_d183_1 [] E_d183_1 h_d183_1 := by
    refine e2_indL (u := 4) (j := 2) (lo := 2147483648) (hi := 2147483708) (b := 4) (dd := 0) hl0 (by decide) rfl rfl (Or.inr ⟨rfl, rfl⟩) rfl ci_d183_1 cj_d183_1 ?_
    intro r_1 k_1 hk_1 hp_1 hs_1 hn_1
    have hl_1 : r_1.length ≤ 5 := hs_1.len rfl
    have ha_1 := ha.ext hp_1
    exact e2_fromM hen ha_1 hcall (e2_cutA_ok (e2_fa (fun al st E h hc => hn_1 al st E h hc) e2_fz)) (hC [12]) (X := e2x_254) ex2_254 28 ck_d183_1
  have EN_1 := e2_entL (u := 4) (j := 2) (lo := 2147483648) (hi := 2147483708) hl0 rfl rfl rfl ci_d183_1 cj_d183_1 L_1
  have L_0 : e2_gdM M p l e R s m args below meth c Q D cA A ads r0 2 al_d183_0 [] E_d183_0 h_d183_0 := by
    refine e2_indL (u := 4) (j := 2) (lo := 2147483648) (hi := 2147483674) (b := 4) (dd := 0) hl0 (by decide) rfl rfl (Or.inr ⟨rfl, rfl⟩) rfl ci_d183_0 cj_d183_0 ?_
    intro r_0 k_0 hk_0 hp_0 hs_0 hn_0
    have hl_0 : r_0.length ≤ 5 := hs_0.len rfl
    have ha_0 := ha.ext hp_0
    exact e2_fromM hen ha_0 hcall (e2_cutA_ok (e2_fa (fun al st E h hc => hn_0 al st E h hc) (e2_fa (fun al st E h hc => (EN_1 al st E h hc).ext hp_0) e2_fz))) (hC [12]) (X := e2x_254) ex2_254 2 ck_d183_0
  have EN_0 := e2_entL (u := 4) (j := 2) (lo := 2147483648) (hi := 2147483674) hl0 rfl rfl rfl ci_d183_0 cj_d183_0 L_0
  exact e2_from hen ha hcall (e2_cutA_ok (e2_fa (fun al st E h hc => EN_0 al st E h hc) e2_fz)) (hC [12]) (X := e2x_254) ex2_254 0 ck_d183_e
/-! d184 X10_bringBack -/
def as_d184 : List ev_V := [(2, 83, 0)]
def E_d184 : e2_E := [(2147483648, 2147583648, 0, 0), (2147483648, 2147483656, 1, 0), (2147483648, 2147483688, 2, 0), (2147483648, 2147483688, 3, 0)]
def dn1693 : e2_Q3 := (dn24, dn1671)
def dn1694 : e2_Q4 := (dn21, dn1693)
def dn1695 : e2_Q5 := (dn14, dn1694)
def dn1696 : e2_Q6 := (dn1695, dn61)
def dn1697 : e2_Q7 := (dn1696, dn274)
def dn1698 : e2_Q8 := (dn1697, dn253)
noncomputable def f_d184 : ev_H := (dn1698 : e2_Q8)
noncomputable def q_d184_0 : ev_H := (dn1698 : e2_Q8)
noncomputable def rs_d184 : e2_Rs := [((9, 0, 0), q_d184_0)]
noncomputable def s_d184 : e2_Sm := (255, as_d184, E_d184, f_d184, rs_d184)
noncomputable def S_d184 : List e2_Sm := []
noncomputable def I_d184 : List e2_In := []
set_option maxRecDepth 1000000 in
theorem co_d184 : e2_okSB E_d184.length as_d184 f_d184 rs_d184 = true := by decide +kernel
def al_d184_0 : List ev_V := [(2, 83, 0), (1, 4, 4294967296)]
def E_d184_0 : e2_E := [(2147483648, 2147583648, 0, 0), (2147483648, 2147483656, 1, 0), (2147483648, 2147483688, 2, 0), (2147483648, 2147483688, 3, 0), (2147483648, 2147483674, 4, 0)]
noncomputable def h_d184_0 : ev_H := (dn1698 : e2_Q8)
noncomputable def cl_d184_e : List (Nat × e2_S) := [(2, e2_cutL (al_d184_0.set 1 (11, 2147483648, 2147483674)) 4 (E_d184_0.take 4) h_d184_0)]
set_option maxRecDepth 1000000 in
theorem ck_d184_e : e2_run (e2_cal S_d184 I_d184 4000 0) (e2_fin rs_d184) e2x_255 (e2_bpL cl_d184_e) (e2_cutA cl_d184_e) 4000 (e2_seek e2x_255 0) (e2_al 2 as_d184) [] E_d184 f_d184 = true := by decide +kernel
noncomputable def cl_d184_0 : List (Nat × e2_S) := [(2, e2_cutL (al_d184_0.set 1 (13, 12, 2147483674)) 4 (E_d184_0.take 4) h_d184_0)]
set_option maxRecDepth 1000000 in
theorem ck_d184_0 : e2_runM (e2_cal S_d184 I_d184 4000 0) (e2_fin rs_d184) e2x_255 (e2_bpL cl_d184_0) (e2_cutA cl_d184_0) 4000 (e2_seek e2x_255 2) al_d184_0 [] E_d184_0 h_d184_0 = true := by decide +kernel
set_option maxRecDepth 1000000 in
theorem ci_d184_0 : e2_idl 4 (al_d184_0.set 1 (9, 0, 0)) = true := by decide +kernel
set_option maxRecDepth 1000000 in
theorem cj_d184_0 : e2_idh 4 8 h_d184_0 = true := by decide +kernel
theorem cs_d184 (hen : en_ok) (l : Launch) : e2_smOk l 1 s_d184 := by
  refine e2_conG (H := 0) (n := 0) (C := evd_255) (S := S_d184) (I := I_d184) (fuel := 4000) hen ei_255 e2_fz e2_fz (by decide) co_d184 fun M d _ hC hcall p e R s m args below meth c Q D cA A ads r0 ha hl0 => ?_
  have L_0 : e2_gdM M p l e R s m args below meth c Q D cA A ads r0 2 al_d184_0 [] E_d184_0 h_d184_0 := by
    refine e2_indL (u := 4) (j := 1) (lo := 2147483648) (hi := 2147483674) (b := 4) (dd := 0) hl0 (by decide) rfl rfl (Or.inr ⟨rfl, rfl⟩) rfl ci_d184_0 cj_d184_0 ?_
    intro r_0 k_0 hk_0 hp_0 hs_0 hn_0
    have hl_0 : r_0.length ≤ 5 := hs_0.len rfl
    have ha_0 := ha.ext hp_0
    exact e2_fromM hen ha_0 hcall (e2_cutA_ok (e2_fa (fun al st E h hc => hn_0 al st E h hc) e2_fz)) (hC [12]) (X := e2x_255) ex2_255 2 ck_d184_0
  have EN_0 := e2_entL (u := 4) (j := 1) (lo := 2147483648) (hi := 2147483674) hl0 rfl rfl rfl ci_d184_0 cj_d184_0 L_0
  exact e2_from hen ha hcall (e2_cutA_ok (e2_fa (fun al st E h hc => EN_0 al st E h hc) e2_fz)) (hC [12]) (X := e2x_255) ex2_255 0 ck_d184_e
/-! d185 X10_will -/
def as_d185 : List ev_V := [(2, 83, 0), (11, 0, 4294967295), (11, 0, 4294967295)]
def E_d185 : e2_E := [(2147483648, 2147583648, 0, 0), (2147483648, 2147483656, 1, 0), (2147483648, 2147483688, 2, 0), (2147483648, 2147483688, 3, 0)]
def dn1699 : e2_Q8 := (dn1676, dn1661)
noncomputable def f_d185 : ev_H := (dn1699 : e2_Q8)
noncomputable def q_d185_0 : ev_H := (dn1699 : e2_Q8)
noncomputable def rs_d185 : e2_Rs := [((11, 0, 4294967295), q_d185_0)]
noncomputable def s_d185 : e2_Sm := (256, as_d185, E_d185, f_d185, rs_d185)
noncomputable def S_d185 : List e2_Sm := [s_d180, s_d184]
noncomputable def I_d185 : List e2_In := [(212, 3, e2x_212), (220, 2, e2x_220)]
set_option maxRecDepth 1000000 in
theorem ck_d185 : e2_run (e2_cal S_d185 I_d185 4000 2) (e2_fin rs_d185) e2x_256 (fun _ => false) (fun _ _ _ _ _ => false) 4000 (e2_seek e2x_256 0) (e2_al 4 as_d185) [] E_d185 f_d185 = true := by decide +kernel
set_option maxRecDepth 1000000 in
theorem co_d185 : e2_okSB E_d185.length as_d185 f_d185 rs_d185 = true := by decide +kernel
theorem cs_d185 (hen : en_ok) (l : Launch) : e2_smOk l 12 s_d185 := e2_con0 (H := 9) (n := 2) (C := evd_256) (S := S_d185) (I := I_d185) (fuel := 4000) [] hen ei_256 (e2_fa (cs_d180 hen l) (e2_fa ((cs_d184 hen l).mono (by decide)) e2_fz)) (e2_fa ein_212 (e2_fa ein_220 e2_fz)) (by decide) co_d185 ex2_256 ck_d185
/-! d186 X10_will -/
def as_d186 : List ev_V := [(2, 83, 0), (11, 0, 4294967295), (11, 0, 4294967295)]
def E_d186 : e2_E := [(2147483648, 2147583648, 0, 0), (2147483648, 2147483656, 1, 0), (2147483648, 2147483688, 2, 0), (2147483648, 2147483688, 3, 0)]
def dn1700 : e2_Q8 := (dn1681, dn1665)
noncomputable def f_d186 : ev_H := (dn1700 : e2_Q8)
noncomputable def q_d186_0 : ev_H := (dn1700 : e2_Q8)
noncomputable def rs_d186 : e2_Rs := [((11, 0, 4294967295), q_d186_0)]
noncomputable def s_d186 : e2_Sm := (256, as_d186, E_d186, f_d186, rs_d186)
noncomputable def S_d186 : List e2_Sm := [s_d181, s_d184]
noncomputable def I_d186 : List e2_In := [(212, 3, e2x_212), (220, 2, e2x_220)]
set_option maxRecDepth 1000000 in
theorem ck_d186 : e2_run (e2_cal S_d186 I_d186 4000 2) (e2_fin rs_d186) e2x_256 (fun _ => false) (fun _ _ _ _ _ => false) 4000 (e2_seek e2x_256 0) (e2_al 4 as_d186) [] E_d186 f_d186 = true := by decide +kernel
set_option maxRecDepth 1000000 in
theorem co_d186 : e2_okSB E_d186.length as_d186 f_d186 rs_d186 = true := by decide +kernel
theorem cs_d186 (hen : en_ok) (l : Launch) (hh : e2_hand_d l) : e2_smOk l 69 s_d186 := e2_con0 (H := 66) (n := 2) (C := evd_256) (S := S_d186) (I := I_d186) (fuel := 4000) [] hen ei_256 (e2_fa (cs_d181 hen l hh) (e2_fa ((cs_d184 hen l).mono (by decide)) e2_fz)) (e2_fa ein_212 (e2_fa ein_220 e2_fz)) (by decide) co_d186 ex2_256 ck_d186
/-! d187 X10_will -/
def as_d187 : List ev_V := [(2, 83, 0), (11, 0, 4294967295), (11, 0, 4294967295)]
def E_d187 : e2_E := [(2147483648, 2147583648, 0, 0), (2147483648, 2147483656, 1, 0), (2147483648, 2147483688, 2, 0), (2147483648, 2147483688, 3, 0)]
def dn1701 : e2_Q6 := (dn1615, dn1663)
def dn1702 : e2_Q7 := (dn1537, dn1701)
def dn1703 : e2_Q8 := (dn1686, dn1702)
noncomputable def f_d187 : ev_H := (dn1703 : e2_Q8)
noncomputable def q_d187_0 : ev_H := (dn1703 : e2_Q8)
noncomputable def rs_d187 : e2_Rs := [((11, 0, 4294967295), q_d187_0)]
noncomputable def s_d187 : e2_Sm := (256, as_d187, E_d187, f_d187, rs_d187)
noncomputable def S_d187 : List e2_Sm := [s_d182, s_d184]
noncomputable def I_d187 : List e2_In := [(212, 3, e2x_212), (220, 2, e2x_220)]
set_option maxRecDepth 1000000 in
theorem ck_d187 : e2_run (e2_cal S_d187 I_d187 4000 2) (e2_fin rs_d187) e2x_256 (fun _ => false) (fun _ _ _ _ _ => false) 4000 (e2_seek e2x_256 0) (e2_al 4 as_d187) [] E_d187 f_d187 = true := by decide +kernel
set_option maxRecDepth 1000000 in
theorem co_d187 : e2_okSB E_d187.length as_d187 f_d187 rs_d187 = true := by decide +kernel
theorem cs_d187 (hen : en_ok) (l : Launch) (hh : e2_hand_d l) : e2_smOk l 66 s_d187 := e2_con0 (H := 63) (n := 2) (C := evd_256) (S := S_d187) (I := I_d187) (fuel := 4000) [] hen ei_256 (e2_fa (cs_d182 hen l hh) (e2_fa ((cs_d184 hen l).mono (by decide)) e2_fz)) (e2_fa ein_212 (e2_fa ein_220 e2_fz)) (by decide) co_d187 ex2_256 ck_d187
/-! d188 X10_will -/
def as_d188 : List ev_V := [(2, 83, 0), (11, 0, 4294967295), (11, 0, 4294967295)]
def E_d188 : e2_E := [(2147483648, 2147583648, 0, 0), (2147483648, 2147483656, 1, 0), (2147483648, 2147483688, 2, 0), (2147483648, 2147483688, 3, 0)]
def dn1704 : e2_Q8 := (dn1691, dn1669)
noncomputable def f_d188 : ev_H := (dn1704 : e2_Q8)
noncomputable def q_d188_0 : ev_H := (dn1704 : e2_Q8)
noncomputable def rs_d188 : e2_Rs := [((11, 0, 4294967295), q_d188_0)]
noncomputable def s_d188 : e2_Sm := (256, as_d188, E_d188, f_d188, rs_d188)
noncomputable def S_d188 : List e2_Sm := [s_d183, s_d184]
noncomputable def I_d188 : List e2_In := [(212, 3, e2x_212), (220, 2, e2x_220)]
set_option maxRecDepth 1000000 in
theorem ck_d188 : e2_run (e2_cal S_d188 I_d188 4000 2) (e2_fin rs_d188) e2x_256 (fun _ => false) (fun _ _ _ _ _ => false) 4000 (e2_seek e2x_256 0) (e2_al 4 as_d188) [] E_d188 f_d188 = true := by decide +kernel
set_option maxRecDepth 1000000 in
theorem co_d188 : e2_okSB E_d188.length as_d188 f_d188 rs_d188 = true := by decide +kernel
theorem cs_d188 (hen : en_ok) (l : Launch) (hh : e2_hand_d l) : e2_smOk l 69 s_d188 := e2_con0 (H := 66) (n := 2) (C := evd_256) (S := S_d188) (I := I_d188) (fuel := 4000) [] hen ei_256 (e2_fa (cs_d183 hen l hh) (e2_fa ((cs_d184 hen l).mono (by decide)) e2_fz)) (e2_fa ein_212 (e2_fa ein_220 e2_fz)) (by decide) co_d188 ex2_256 ck_d188
/-! d189 X10_field -/
def as_d189 : List ev_V := [(2, 83, 0), (11, 0, 4294967295)]
def E_d189 : e2_E := [(2147483648, 2147583648, 0, 0), (2147483648, 2147483656, 1, 0), (2147483648, 2147483688, 2, 0), (2147483648, 2147483688, 3, 0)]
noncomputable def f_d189 : ev_H := (dn1677 : e2_Q8)
noncomputable def q_d189_0 : ev_H := (dn1677 : e2_Q8)
noncomputable def rs_d189 : e2_Rs := [((11, 0, 4294967295), q_d189_0)]
noncomputable def s_d189 : e2_Sm := (257, as_d189, E_d189, f_d189, rs_d189)
noncomputable def S_d189 : List e2_Sm := [s_d11, s_d180, s_d184]
noncomputable def I_d189 : List e2_In := [(212, 3, e2x_212)]
set_option maxRecDepth 1000000 in
theorem ck_d189 : e2_run (e2_cal S_d189 I_d189 4000 1) (e2_fin rs_d189) e2x_257 (fun _ => false) (fun _ _ _ _ _ => false) 4000 (e2_seek e2x_257 0) (e2_al 3 as_d189) [] E_d189 f_d189 = true := by decide +kernel
set_option maxRecDepth 1000000 in
theorem co_d189 : e2_okSB E_d189.length as_d189 f_d189 rs_d189 = true := by decide +kernel
theorem cs_d189 (hen : en_ok) (l : Launch) : e2_smOk l 11 s_d189 := e2_con0 (H := 9) (n := 1) (C := evd_257) (S := S_d189) (I := I_d189) (fuel := 4000) [] hen ei_257 (e2_fa ((cs_d11 hen l).mono (by decide)) (e2_fa (cs_d180 hen l) (e2_fa ((cs_d184 hen l).mono (by decide)) e2_fz))) (e2_fa ein_212 e2_fz) (by decide) co_d189 ex2_257 ck_d189
/-! d190 X10_field -/
def as_d190 : List ev_V := [(2, 83, 0), (11, 0, 4294967295)]
def E_d190 : e2_E := [(2147483648, 2147583648, 0, 0), (2147483648, 2147483656, 1, 0), (2147483648, 2147483688, 2, 0), (2147483648, 2147483688, 3, 0)]
noncomputable def f_d190 : ev_H := (dn1682 : e2_Q8)
noncomputable def q_d190_0 : ev_H := (dn1682 : e2_Q8)
noncomputable def rs_d190 : e2_Rs := [((11, 0, 4294967295), q_d190_0)]
noncomputable def s_d190 : e2_Sm := (257, as_d190, E_d190, f_d190, rs_d190)
noncomputable def S_d190 : List e2_Sm := [s_d11, s_d181, s_d184]
noncomputable def I_d190 : List e2_In := [(212, 3, e2x_212)]
set_option maxRecDepth 1000000 in
theorem ck_d190 : e2_run (e2_cal S_d190 I_d190 4000 1) (e2_fin rs_d190) e2x_257 (fun _ => false) (fun _ _ _ _ _ => false) 4000 (e2_seek e2x_257 0) (e2_al 3 as_d190) [] E_d190 f_d190 = true := by decide +kernel
set_option maxRecDepth 1000000 in
theorem co_d190 : e2_okSB E_d190.length as_d190 f_d190 rs_d190 = true := by decide +kernel
theorem cs_d190 (hen : en_ok) (l : Launch) (hh : e2_hand_d l) : e2_smOk l 68 s_d190 := e2_con0 (H := 66) (n := 1) (C := evd_257) (S := S_d190) (I := I_d190) (fuel := 4000) [] hen ei_257 (e2_fa ((cs_d11 hen l).mono (by decide)) (e2_fa (cs_d181 hen l hh) (e2_fa ((cs_d184 hen l).mono (by decide)) e2_fz))) (e2_fa ein_212 e2_fz) (by decide) co_d190 ex2_257 ck_d190
/-! d191 X10_field -/
def as_d191 : List ev_V := [(2, 83, 0), (11, 0, 4294967295)]
def E_d191 : e2_E := [(2147483648, 2147583648, 0, 0), (2147483648, 2147483656, 1, 0), (2147483648, 2147483688, 2, 0), (2147483648, 2147483688, 3, 0)]
noncomputable def f_d191 : ev_H := (dn1687 : e2_Q8)
noncomputable def q_d191_0 : ev_H := (dn1687 : e2_Q8)
noncomputable def rs_d191 : e2_Rs := [((11, 0, 4294967295), q_d191_0)]
noncomputable def s_d191 : e2_Sm := (257, as_d191, E_d191, f_d191, rs_d191)
noncomputable def S_d191 : List e2_Sm := [s_d11, s_d182, s_d184]
noncomputable def I_d191 : List e2_In := [(212, 3, e2x_212)]
set_option maxRecDepth 1000000 in
theorem ck_d191 : e2_run (e2_cal S_d191 I_d191 4000 1) (e2_fin rs_d191) e2x_257 (fun _ => false) (fun _ _ _ _ _ => false) 4000 (e2_seek e2x_257 0) (e2_al 3 as_d191) [] E_d191 f_d191 = true := by decide +kernel
set_option maxRecDepth 1000000 in
theorem co_d191 : e2_okSB E_d191.length as_d191 f_d191 rs_d191 = true := by decide +kernel
theorem cs_d191 (hen : en_ok) (l : Launch) (hh : e2_hand_d l) : e2_smOk l 65 s_d191 := e2_con0 (H := 63) (n := 1) (C := evd_257) (S := S_d191) (I := I_d191) (fuel := 4000) [] hen ei_257 (e2_fa ((cs_d11 hen l).mono (by decide)) (e2_fa (cs_d182 hen l hh) (e2_fa ((cs_d184 hen l).mono (by decide)) e2_fz))) (e2_fa ein_212 e2_fz) (by decide) co_d191 ex2_257 ck_d191
/-! d192 X10_field -/
def as_d192 : List ev_V := [(2, 83, 0), (11, 0, 4294967295)]
def E_d192 : e2_E := [(2147483648, 2147583648, 0, 0), (2147483648, 2147483656, 1, 0), (2147483648, 2147483688, 2, 0), (2147483648, 2147483688, 3, 0)]
noncomputable def f_d192 : ev_H := (dn1692 : e2_Q8)
noncomputable def q_d192_0 : ev_H := (dn1692 : e2_Q8)
noncomputable def rs_d192 : e2_Rs := [((11, 0, 4294967295), q_d192_0)]
noncomputable def s_d192 : e2_Sm := (257, as_d192, E_d192, f_d192, rs_d192)
noncomputable def S_d192 : List e2_Sm := [s_d11, s_d183, s_d184]
noncomputable def I_d192 : List e2_In := [(212, 3, e2x_212)]
set_option maxRecDepth 1000000 in
theorem ck_d192 : e2_run (e2_cal S_d192 I_d192 4000 1) (e2_fin rs_d192) e2x_257 (fun _ => false) (fun _ _ _ _ _ => false) 4000 (e2_seek e2x_257 0) (e2_al 3 as_d192) [] E_d192 f_d192 = true := by decide +kernel
set_option maxRecDepth 1000000 in
theorem co_d192 : e2_okSB E_d192.length as_d192 f_d192 rs_d192 = true := by decide +kernel
theorem cs_d192 (hen : en_ok) (l : Launch) (hh : e2_hand_d l) : e2_smOk l 68 s_d192 := e2_con0 (H := 66) (n := 1) (C := evd_257) (S := S_d192) (I := I_d192) (fuel := 4000) [] hen ei_257 (e2_fa ((cs_d11 hen l).mono (by decide)) (e2_fa (cs_d183 hen l hh) (e2_fa ((cs_d184 hen l).mono (by decide)) e2_fz))) (e2_fa ein_212 e2_fz) (by decide) co_d192 ex2_257 ck_d192
/-! d193 X10_harm -/
def as_d193 : List ev_V := [(2, 83, 0)]
def E_d193 : e2_E := [(2147483648, 2147583648, 0, 0), (2147483648, 2147483656, 1, 0), (2147483648, 2147483688, 2, 0), (2147483648, 2147483688, 3, 0)]
noncomputable def f_d193 : ev_H := (dn1582 : e2_Q8)
noncomputable def q_d193_0 : ev_H := (dn1582 : e2_Q8)
noncomputable def rs_d193 : e2_Rs := [((11, 2147483648, 2147483649), q_d193_0)]
noncomputable def s_d193 : e2_Sm := (258, as_d193, E_d193, f_d193, rs_d193)
noncomputable def S_d193 : List e2_Sm := [s_d124, s_d133]
noncomputable def I_d193 : List e2_In := []
set_option maxRecDepth 1000000 in
theorem ck_d193 : e2_run (e2_cal S_d193 I_d193 4000 0) (e2_fin rs_d193) e2x_258 (fun _ => false) (fun _ _ _ _ _ => false) 4000 (e2_seek e2x_258 0) (e2_al 1 as_d193) [] E_d193 f_d193 = true := by decide +kernel
set_option maxRecDepth 1000000 in
theorem co_d193 : e2_okSB E_d193.length as_d193 f_d193 rs_d193 = true := by decide +kernel
theorem cs_d193 (hen : en_ok) (l : Launch) : e2_smOk l 7 s_d193 := e2_con0 (H := 6) (n := 0) (C := evd_258) (S := S_d193) (I := I_d193) (fuel := 4000) [] hen ei_258 (e2_fa (cs_d124 hen l) (e2_fa ((cs_d133 hen l).mono (by decide)) e2_fz)) e2_fz (by decide) co_d193 ex2_258 ck_d193
/-! d194 X10_harm -/
def as_d194 : List ev_V := [(2, 83, 0)]
def E_d194 : e2_E := [(2147483648, 2147583648, 0, 0), (2147483648, 2147483656, 1, 0), (2147483648, 2147483688, 2, 0), (2147483648, 2147483688, 3, 0)]
noncomputable def f_d194 : ev_H := (dn1586 : e2_Q8)
noncomputable def q_d194_0 : ev_H := (dn1586 : e2_Q8)
noncomputable def rs_d194 : e2_Rs := [((11, 2147483648, 2147483649), q_d194_0)]
noncomputable def s_d194 : e2_Sm := (258, as_d194, E_d194, f_d194, rs_d194)
noncomputable def S_d194 : List e2_Sm := [s_d126, s_d133]
noncomputable def I_d194 : List e2_In := []
set_option maxRecDepth 1000000 in
theorem ck_d194 : e2_run (e2_cal S_d194 I_d194 4000 0) (e2_fin rs_d194) e2x_258 (fun _ => false) (fun _ _ _ _ _ => false) 4000 (e2_seek e2x_258 0) (e2_al 1 as_d194) [] E_d194 f_d194 = true := by decide +kernel
set_option maxRecDepth 1000000 in
theorem co_d194 : e2_okSB E_d194.length as_d194 f_d194 rs_d194 = true := by decide +kernel
theorem cs_d194 (hen : en_ok) (l : Launch) (hh : e2_hand_d l) : e2_smOk l 64 s_d194 := e2_con0 (H := 63) (n := 0) (C := evd_258) (S := S_d194) (I := I_d194) (fuel := 4000) [] hen ei_258 (e2_fa (cs_d126 hen l hh) (e2_fa ((cs_d133 hen l).mono (by decide)) e2_fz)) e2_fz (by decide) co_d194 ex2_258 ck_d194
/-! d195 X10_harm -/
def as_d195 : List ev_V := [(2, 83, 0)]
def E_d195 : e2_E := [(2147483648, 2147583648, 0, 0), (2147483648, 2147483656, 1, 0), (2147483648, 2147483688, 2, 0), (2147483648, 2147483688, 3, 0)]
noncomputable def f_d195 : ev_H := (dn1587 : e2_Q8)
noncomputable def q_d195_0 : ev_H := (dn1587 : e2_Q8)
noncomputable def rs_d195 : e2_Rs := [((11, 2147483648, 2147483649), q_d195_0)]
noncomputable def s_d195 : e2_Sm := (258, as_d195, E_d195, f_d195, rs_d195)
noncomputable def S_d195 : List e2_Sm := [s_d128, s_d133]
noncomputable def I_d195 : List e2_In := []
set_option maxRecDepth 1000000 in
theorem ck_d195 : e2_run (e2_cal S_d195 I_d195 4000 0) (e2_fin rs_d195) e2x_258 (fun _ => false) (fun _ _ _ _ _ => false) 4000 (e2_seek e2x_258 0) (e2_al 1 as_d195) [] E_d195 f_d195 = true := by decide +kernel
set_option maxRecDepth 1000000 in
theorem co_d195 : e2_okSB E_d195.length as_d195 f_d195 rs_d195 = true := by decide +kernel
theorem cs_d195 (hen : en_ok) (l : Launch) : e2_smOk l 7 s_d195 := e2_con0 (H := 6) (n := 0) (C := evd_258) (S := S_d195) (I := I_d195) (fuel := 4000) [] hen ei_258 (e2_fa (cs_d128 hen l) (e2_fa ((cs_d133 hen l).mono (by decide)) e2_fz)) e2_fz (by decide) co_d195 ex2_258 ck_d195
/-! d196 X10_harm -/
def as_d196 : List ev_V := [(2, 83, 0)]
def E_d196 : e2_E := [(2147483648, 2147583648, 0, 0), (2147483648, 2147483656, 1, 0), (2147483648, 2147483688, 2, 0), (2147483648, 2147483688, 3, 0)]
noncomputable def f_d196 : ev_H := (dn1591 : e2_Q8)
noncomputable def q_d196_0 : ev_H := (dn1591 : e2_Q8)
noncomputable def rs_d196 : e2_Rs := [((11, 2147483648, 2147483649), q_d196_0)]
noncomputable def s_d196 : e2_Sm := (258, as_d196, E_d196, f_d196, rs_d196)
noncomputable def S_d196 : List e2_Sm := [s_d130, s_d133]
noncomputable def I_d196 : List e2_In := []
set_option maxRecDepth 1000000 in
theorem ck_d196 : e2_run (e2_cal S_d196 I_d196 4000 0) (e2_fin rs_d196) e2x_258 (fun _ => false) (fun _ _ _ _ _ => false) 4000 (e2_seek e2x_258 0) (e2_al 1 as_d196) [] E_d196 f_d196 = true := by decide +kernel
set_option maxRecDepth 1000000 in
theorem co_d196 : e2_okSB E_d196.length as_d196 f_d196 rs_d196 = true := by decide +kernel
theorem cs_d196 (hen : en_ok) (l : Launch) (hh : e2_hand_d l) : e2_smOk l 64 s_d196 := e2_con0 (H := 63) (n := 0) (C := evd_258) (S := S_d196) (I := I_d196) (fuel := 4000) [] hen ei_258 (e2_fa (cs_d130 hen l hh) (e2_fa ((cs_d133 hen l).mono (by decide)) e2_fz)) e2_fz (by decide) co_d196 ex2_258 ck_d196
/-! d197 X10_isWanted -/
def as_d197 : List ev_V := [(2, 83, 0), (11, 0, 4294967295), (11, 2147483648, 2147483649)]
def E_d197 : e2_E := [(2147483648, 2147583648, 0, 0), (2147483648, 2147483656, 1, 0), (2147483648, 2147483688, 2, 0), (2147483648, 2147483688, 3, 0)]
def dn1705 : e2_Q7 := (dn476, dn1520)
def dn1706 : e2_Q2 := (dn152, dn1639)
def dn1707 : e2_Q3 := (dn151, dn1706)
def dn1708 : e2_Q4 := (dn148, dn1707)
def dn1709 : e2_Q5 := (dn387, dn1708)
def dn1710 : e2_Q6 := (dn1709, dn487)
def dn1711 : e2_Q5 := (dn1578, dn219)
def dn1712 : e2_Q6 := (dn1711, dn251)
def dn1713 : e2_Q7 := (dn1710, dn1712)
def dn1714 : e2_Q8 := (dn1705, dn1713)
noncomputable def f_d197 : ev_H := (dn1714 : e2_Q8)
noncomputable def q_d197_0 : ev_H := (dn1714 : e2_Q8)
noncomputable def rs_d197 : e2_Rs := [((11, 2147483648, 2147483649), q_d197_0)]
noncomputable def s_d197 : e2_Sm := (259, as_d197, E_d197, f_d197, rs_d197)
noncomputable def S_d197 : List e2_Sm := [s_d93, s_d132]
noncomputable def I_d197 : List e2_In := [(227, 2, e2x_227), (232, 1, e2x_232)]
set_option maxRecDepth 1000000 in
theorem co_d197 : e2_okSB E_d197.length as_d197 f_d197 rs_d197 = true := by decide +kernel
def al_d197_0 : List ev_V := [(2, 83, 0), (11, 0, 4294967295), (0, 1, 0), (1, 4, 4294967296)]
def E_d197_0 : e2_E := [(2147483648, 2147583648, 0, 0), (2147483648, 2147483656, 1, 0), (2147483648, 2147483688, 2, 0), (2147483648, 2147483688, 3, 0), (2147483648, 2147483668, 4, 0)]
noncomputable def h_d197_0 : ev_H := (dn1714 : e2_Q8)
noncomputable def cl_d197_e : List (Nat × e2_S) := [(58, e2_cutL (al_d197_0.set 3 (11, 2147483648, 2147483668)) 4 (E_d197_0.take 4) h_d197_0)]
set_option maxRecDepth 1000000 in
theorem ck_d197_e : e2_run (e2_cal S_d197 I_d197 4000 2) (e2_fin rs_d197) e2x_259 (e2_bpL cl_d197_e) (e2_cutA cl_d197_e) 4000 (e2_seek e2x_259 0) (e2_al 4 as_d197) [] E_d197 f_d197 = true := by decide +kernel
noncomputable def cl_d197_0 : List (Nat × e2_S) := [(58, e2_cutL (al_d197_0.set 3 (13, 12, 2147483668)) 4 (E_d197_0.take 4) h_d197_0)]
set_option maxRecDepth 1000000 in
theorem ck_d197_0 : e2_runM (e2_cal S_d197 I_d197 4000 2) (e2_fin rs_d197) e2x_259 (e2_bpL cl_d197_0) (e2_cutA cl_d197_0) 4000 (e2_seek e2x_259 58) al_d197_0 [] E_d197_0 h_d197_0 = true := by decide +kernel
set_option maxRecDepth 1000000 in
theorem ci_d197_0 : e2_idl 4 (al_d197_0.set 3 (9, 0, 0)) = true := by decide +kernel
set_option maxRecDepth 1000000 in
theorem cj_d197_0 : e2_idh 4 8 h_d197_0 = true := by decide +kernel
theorem cs_d197 (hen : en_ok) (l : Launch) : e2_smOk l 8 s_d197 := by
  refine e2_conG (H := 5) (n := 2) (C := evd_259) (S := S_d197) (I := I_d197) (fuel := 4000) hen ei_259 (e2_fa (cs_d93 hen l) (e2_fa ((cs_d132 hen l).mono (by decide)) e2_fz)) (e2_fa ein_227 (e2_fa ein_232 e2_fz)) (by decide) co_d197 fun M d _ hC hcall p e R s m args below meth c Q D cA A ads r0 ha hl0 => ?_
  have L_0 : e2_gdM M p l e R s m args below meth c Q D cA A ads r0 58 al_d197_0 [] E_d197_0 h_d197_0 := by
    refine e2_indL (u := 4) (j := 3) (lo := 2147483648) (hi := 2147483668) (b := 4) (dd := 0) hl0 (by decide) rfl rfl (Or.inr ⟨rfl, rfl⟩) rfl ci_d197_0 cj_d197_0 ?_
    intro r_0 k_0 hk_0 hp_0 hs_0 hn_0
    have hl_0 : r_0.length ≤ 5 := hs_0.len rfl
    have ha_0 := ha.ext hp_0
    exact e2_fromM hen ha_0 hcall (e2_cutA_ok (e2_fa (fun al st E h hc => hn_0 al st E h hc) e2_fz)) (hC []) (X := e2x_259) ex2_259 58 ck_d197_0
  have EN_0 := e2_entL (u := 4) (j := 3) (lo := 2147483648) (hi := 2147483668) hl0 rfl rfl rfl ci_d197_0 cj_d197_0 L_0
  exact e2_from hen ha hcall (e2_cutA_ok (e2_fa (fun al st E h hc => EN_0 al st E h hc) e2_fz)) (hC []) (X := e2x_259) ex2_259 0 ck_d197_e
/-! d198 X10_change -/
def as_d198 : List ev_V := [(2, 83, 0), (11, 2147483648, 2147483649)]
def E_d198 : e2_E := [(2147483648, 2147583648, 0, 0), (2147483648, 2147483656, 1, 0), (2147483648, 2147483688, 2, 0), (2147483648, 2147483688, 3, 0)]
def dn1715 : e2_Q5 := (dn1515, dn433)
def dn1716 : e2_Q6 := (dn1715, dn475)
def dn1717 : e2_Q7 := (dn1716, dn1520)
def dn1718 : e2_Q6 := (dn1579, dn1643)
def dn1719 : e2_Q7 := (dn1710, dn1718)
def dn1720 : e2_Q8 := (dn1717, dn1719)
noncomputable def f_d198 : ev_H := (dn1720 : e2_Q8)
noncomputable def q_d198_0 : ev_H := (dn1720 : e2_Q8)
noncomputable def rs_d198 : e2_Rs := [((11, 2147483647, 2147483651), q_d198_0)]
noncomputable def s_d198 : e2_Sm := (260, as_d198, E_d198, f_d198, rs_d198)
noncomputable def S_d198 : List e2_Sm := [s_d13, s_d197]
noncomputable def I_d198 : List e2_In := [(216, 1, e2x_216)]
set_option maxRecDepth 1000000 in
theorem co_d198 : e2_okSB E_d198.length as_d198 f_d198 rs_d198 = true := by decide +kernel
def al_d198_0 : List ev_V := [(2, 83, 0), (11, 2147483648, 2147483649), (11, 0, 4294967295), (11, 0, 4294967295), (1, 4, 4294967296), (1, 5, 4294967296), (1, 6, 4294967296), (1, 7, 4294967296), (9, 0, 0)]
def E_d198_0 : e2_E := [(2147483648, 2147583648, 0, 0), (2147483648, 2147483656, 1, 0), (2147483648, 2147483688, 2, 0), (2147483648, 2147483688, 3, 0), (2147483649, 2147483651, 4, 0), (2147483648, 2147483667, 5, 0), (2147483648, 2147483667, 6, 0), (2147483648, 2147483668, 7, 0)]
noncomputable def h_d198_0 : ev_H := (dn1720 : e2_Q8)
def al_d198_1 : List ev_V := [(2, 83, 0), (11, 2147483648, 2147483649), (11, 0, 4294967295), (11, 0, 4294967295), (1, 4, 4294967296), (9, 0, 0), (9, 0, 0), (9, 0, 0), (9, 0, 0)]
def E_d198_1 : e2_E := [(2147483648, 2147583648, 0, 0), (2147483648, 2147483656, 1, 0), (2147483648, 2147483688, 2, 0), (2147483648, 2147483688, 3, 0), (2147483649, 2147483652, 4, 0)]
noncomputable def h_d198_1 : ev_H := (dn1720 : e2_Q8)
def al_d198_2 : List ev_V := [(2, 83, 0), (11, 2147483648, 2147483649), (11, 0, 4294967295), (11, 0, 4294967295), (1, 4, 4294967296), (1, 5, 4294967296), (9, 0, 0), (9, 0, 0), (9, 0, 0)]
def E_d198_2 : e2_E := [(2147483648, 2147583648, 0, 0), (2147483648, 2147483656, 1, 0), (2147483648, 2147483688, 2, 0), (2147483648, 2147483688, 3, 0), (2147483649, 2147483651, 4, 0), (2147483648, 2147483668, 5, 0)]
noncomputable def h_d198_2 : ev_H := (dn1720 : e2_Q8)
def al_d198_3 : List ev_V := [(2, 83, 0), (11, 2147483648, 2147483649), (11, 0, 4294967295), (11, 0, 4294967295), (1, 4, 4294967296), (1, 5, 4294967296), (1, 6, 4294967296), (9, 0, 0), (9, 0, 0)]
def E_d198_3 : e2_E := [(2147483648, 2147583648, 0, 0), (2147483648, 2147483656, 1, 0), (2147483648, 2147483688, 2, 0), (2147483648, 2147483688, 3, 0), (2147483649, 2147483651, 4, 0), (2147483648, 2147483667, 5, 0), (2147483648, 2147483668, 6, 0)]
noncomputable def h_d198_3 : ev_H := (dn1720 : e2_Q8)
noncomputable def cl_d198_e : List (Nat × e2_S) := [(40, e2_cutL (al_d198_1.set 4 (11, 2147483649, 2147483652)) 4 (E_d198_1.take 4) h_d198_1)]
set_option maxRecDepth 1000000 in
theorem ck_d198_e : e2_run (e2_cal S_d198 I_d198 4000 1) (e2_fin rs_d198) e2x_260 (e2_bpL cl_d198_e) (e2_cutA cl_d198_e) 4000 (e2_seek e2x_260 0) (e2_al 9 as_d198) [] E_d198 f_d198 = true := by decide +kernel
noncomputable def cl_d198_0 : List (Nat × e2_S) := [(109, e2_cutL (al_d198_0.set 7 (13, 15, 2147483668)) 7 (E_d198_0.take 7) h_d198_0),
  (74, e2_cutL (al_d198_3.set 6 (13, 14, 2147483668)) 6 (E_d198_3.take 6) h_d198_3)]
set_option maxRecDepth 1000000 in
theorem ck_d198_0 : e2_runM (e2_cal S_d198 I_d198 4000 1) (e2_fin rs_d198) e2x_260 (e2_bpL cl_d198_0) (e2_cutA cl_d198_0) 4000 (e2_seek e2x_260 109) al_d198_0 [] E_d198_0 h_d198_0 = true := by decide +kernel
set_option maxRecDepth 1000000 in
theorem ci_d198_0 : e2_idl 7 (al_d198_0.set 7 (9, 0, 0)) = true := by decide +kernel
set_option maxRecDepth 1000000 in
theorem cj_d198_0 : e2_idh 7 8 h_d198_0 = true := by decide +kernel
noncomputable def cl_d198_1 : List (Nat × e2_S) := [(49, e2_cutL (al_d198_2.set 5 (11, 2147483648, 2147483668)) 5 (E_d198_2.take 5) h_d198_2)]
set_option maxRecDepth 1000000 in
theorem ck_d198_1 : e2_runM (e2_cal S_d198 I_d198 4000 1) (e2_fin rs_d198) e2x_260 (e2_bpL cl_d198_1) (e2_cutA cl_d198_1) 4000 (e2_seek e2x_260 40) al_d198_1 [] E_d198_1 h_d198_1 = true := by decide +kernel
set_option maxRecDepth 1000000 in
theorem ci_d198_1 : e2_idl 4 (al_d198_1.set 4 (9, 0, 0)) = true := by decide +kernel
set_option maxRecDepth 1000000 in
theorem cj_d198_1 : e2_idh 4 8 h_d198_1 = true := by decide +kernel
noncomputable def cl_d198_2 : List (Nat × e2_S) := [(40, e2_cutL (al_d198_1.set 4 (13, 12, 2147483652)) 4 (E_d198_1.take 4) h_d198_1),
  (74, e2_cutL (al_d198_3.set 6 (11, 2147483648, 2147483668)) 6 (E_d198_3.take 6) h_d198_3)]
set_option maxRecDepth 1000000 in
theorem ck_d198_2 : e2_runM (e2_cal S_d198 I_d198 4000 1) (e2_fin rs_d198) e2x_260 (e2_bpL cl_d198_2) (e2_cutA cl_d198_2) 4000 (e2_seek e2x_260 49) al_d198_2 [] E_d198_2 h_d198_2 = true := by decide +kernel
set_option maxRecDepth 1000000 in
theorem ci_d198_2 : e2_idl 5 (al_d198_2.set 5 (9, 0, 0)) = true := by decide +kernel
set_option maxRecDepth 1000000 in
theorem cj_d198_2 : e2_idh 5 8 h_d198_2 = true := by decide +kernel
noncomputable def cl_d198_3 : List (Nat × e2_S) := [(109, e2_cutL (al_d198_0.set 7 (11, 2147483648, 2147483668)) 7 (E_d198_0.take 7) h_d198_0),
  (49, e2_cutL (al_d198_2.set 5 (13, 13, 2147483668)) 5 (E_d198_2.take 5) h_d198_2)]
set_option maxRecDepth 1000000 in
theorem ck_d198_3 : e2_runM (e2_cal S_d198 I_d198 4000 1) (e2_fin rs_d198) e2x_260 (e2_bpL cl_d198_3) (e2_cutA cl_d198_3) 4000 (e2_seek e2x_260 74) al_d198_3 [] E_d198_3 h_d198_3 = true := by decide +kernel
set_option maxRecDepth 1000000 in
theorem ci_d198_3 : e2_idl 6 (al_d198_3.set 6 (9, 0, 0)) = true := by decide +kernel
set_option maxRecDepth 1000000 in
theorem cj_d198_3 : e2_idh 6 8 h_d198_3 = true := by decide +kernel
theorem cs_d198 (hen : en_ok) (l : Launch) : e2_smOk l 10 s_d198 := by
  refine e2_conG (H := 8) (n := 1) (C := evd_260) (S := S_d198) (I := I_d198) (fuel := 4000) hen ei_260 (e2_fa ((cs_d13 hen l).mono (by decide)) (e2_fa (cs_d197 hen l) e2_fz)) (e2_fa ein_216 e2_fz) (by decide) co_d198 fun M d _ hC hcall p e R s m args below meth c Q D cA A ads r0 ha hl0 => ?_
  have L_1 : e2_gdM M p l e R s m args below meth c Q D cA A ads r0 40 al_d198_1 [] E_d198_1 h_d198_1 := by
    refine e2_indL (u := 4) (j := 4) (lo := 2147483649) (hi := 2147483652) (b := 4) (dd := 0) hl0 (by decide) rfl rfl (Or.inr ⟨rfl, rfl⟩) rfl ci_d198_1 cj_d198_1 ?_
    intro r_1 k_1 hk_1 hp_1 hs_1 hn_1
    have hl_1 : r_1.length ≤ 5 := hs_1.len rfl
    have ha_1 := ha.ext hp_1
    have L_2 : e2_gdM M p l e R s m args below meth c Q D cA A ads r_1 49 al_d198_2 [] E_d198_2 h_d198_2 := by
      refine e2_indL (u := 5) (j := 5) (lo := 2147483648) (hi := 2147483668) (b := 5) (dd := 0) hl_1 (by decide) rfl rfl (Or.inr ⟨rfl, rfl⟩) rfl ci_d198_2 cj_d198_2 ?_
      intro r_2 k_2 hk_2 hp_2 hs_2 hn_2
      have hl_2 : r_2.length ≤ 6 := hs_2.len rfl
      have ha_2 := ha_1.ext hp_2
      have L_3 : e2_gdM M p l e R s m args below meth c Q D cA A ads r_2 74 al_d198_3 [] E_d198_3 h_d198_3 := by
        refine e2_indL (u := 6) (j := 6) (lo := 2147483648) (hi := 2147483668) (b := 6) (dd := 0) hl_2 (by decide) rfl rfl (Or.inr ⟨rfl, rfl⟩) rfl ci_d198_3 cj_d198_3 ?_
        intro r_3 k_3 hk_3 hp_3 hs_3 hn_3
        have hl_3 : r_3.length ≤ 7 := hs_3.len rfl
        have ha_3 := ha_2.ext hp_3
        have L_0 : e2_gdM M p l e R s m args below meth c Q D cA A ads r_3 109 al_d198_0 [] E_d198_0 h_d198_0 := by
          refine e2_indL (u := 7) (j := 7) (lo := 2147483648) (hi := 2147483668) (b := 7) (dd := 0) hl_3 (by decide) rfl rfl (Or.inr ⟨rfl, rfl⟩) rfl ci_d198_0 cj_d198_0 ?_
          intro r_0 k_0 hk_0 hp_0 hs_0 hn_0
          have hl_0 : r_0.length ≤ 8 := hs_0.len rfl
          have ha_0 := ha_3.ext hp_0
          exact e2_fromM hen ha_0 hcall (e2_cutA_ok (e2_fa (fun al st E h hc => hn_0 al st E h hc) (e2_fa (fun al st E h hc => (hn_3 al st E h hc).ext hp_0) e2_fz))) (hC []) (X := e2x_260) ex2_260 109 ck_d198_0
        have EN_0 := e2_entL (u := 7) (j := 7) (lo := 2147483648) (hi := 2147483668) hl_3 rfl rfl rfl ci_d198_0 cj_d198_0 L_0
        exact e2_fromM hen ha_3 hcall (e2_cutA_ok (e2_fa (fun al st E h hc => EN_0 al st E h hc) (e2_fa (fun al st E h hc => (hn_2 al st E h hc).ext hp_3) e2_fz))) (hC []) (X := e2x_260) ex2_260 74 ck_d198_3
      have EN_3 := e2_entL (u := 6) (j := 6) (lo := 2147483648) (hi := 2147483668) hl_2 rfl rfl rfl ci_d198_3 cj_d198_3 L_3
      exact e2_fromM hen ha_2 hcall (e2_cutA_ok (e2_fa (fun al st E h hc => (hn_1 al st E h hc).ext hp_2) (e2_fa (fun al st E h hc => EN_3 al st E h hc) e2_fz))) (hC []) (X := e2x_260) ex2_260 49 ck_d198_2
    have EN_2 := e2_entL (u := 5) (j := 5) (lo := 2147483648) (hi := 2147483668) hl_1 rfl rfl rfl ci_d198_2 cj_d198_2 L_2
    exact e2_fromM hen ha_1 hcall (e2_cutA_ok (e2_fa (fun al st E h hc => EN_2 al st E h hc) e2_fz)) (hC []) (X := e2x_260) ex2_260 40 ck_d198_1
  have EN_1 := e2_entL (u := 4) (j := 4) (lo := 2147483649) (hi := 2147483652) hl0 rfl rfl rfl ci_d198_1 cj_d198_1 L_1
  exact e2_from hen ha hcall (e2_cutA_ok (e2_fa (fun al st E h hc => EN_1 al st E h hc) e2_fz)) (hC []) (X := e2x_260) ex2_260 0 ck_d198_e
