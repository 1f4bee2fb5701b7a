/-! CONTRACTS b, printed by a program -/
/-! b173 X10_weight -/
def as_b173 : List ev_V := [(2, 83, 0)]
def E_b173 : e2_E := [(2147483648, 2147583648, 0, 0), (2147483648, 2147483656, 1, 0), (2147483648, 2147483688, 2, 0), (2147483648, 2147483688, 3, 0)]
noncomputable def f_b173 : ev_H := (bn1542 : e2_Q8)
noncomputable def q_b173_0 : ev_H := (bn1542 : e2_Q8)
noncomputable def rs_b173 : e2_Rs := [((11, 0, 4294967295), q_b173_0)]
noncomputable def s_b173 : e2_Sm := (252, as_b173, E_b173, f_b173, rs_b173)
noncomputable def S_b173 : List e2_Sm := [s_b126]
noncomputable def I_b173 : List e2_In := [(227, 2, e2x_227)]
set_option maxRecDepth 1000000 in
theorem ck_b173 : e2_run (e2_cal S_b173 I_b173 4000 1) (e2_fin rs_b173) e2x_252 (fun _ => false) (fun _ _ _ _ _ => false) 4000 (e2_seek e2x_252 0) (e2_al 1 as_b173) [] E_b173 f_b173 = true := by decide +kernel
set_option maxRecDepth 1000000 in
theorem co_b173 : e2_okSB E_b173.length as_b173 f_b173 rs_b173 = true := by decide +kernel
theorem cs_b173 (hen : en_ok) (l : Launch) (hh : e2_hand_b l) : e2_smOk l 65 s_b173 := e2_con0 (H := 63) (n := 1) (C := evd_252) (S := S_b173) (I := I_b173) (fuel := 4000) [] hen ei_252 (e2_fa (cs_b126 hen l hh) e2_fz) (e2_fa ein_227 e2_fz) (by decide) co_b173 ex2_252 ck_b173
/-! b174 X10_weight -/
def as_b174 : List ev_V := [(2, 83, 0)]
def E_b174 : e2_E := [(2147483648, 2147583648, 0, 0), (2147483648, 2147483656, 1, 0), (2147483648, 2147483688, 2, 0), (2147483648, 2147483688, 3, 0)]
noncomputable def f_b174 : ev_H := (bn1550 : e2_Q8)
noncomputable def q_b174_0 : ev_H := (bn1550 : e2_Q8)
noncomputable def rs_b174 : e2_Rs := [((11, 0, 4294967295), q_b174_0)]
noncomputable def s_b174 : e2_Sm := (252, as_b174, E_b174, f_b174, rs_b174)
noncomputable def S_b174 : List e2_Sm := [s_b128]
noncomputable def I_b174 : List e2_In := [(227, 2, e2x_227)]
set_option maxRecDepth 1000000 in
theorem ck_b174 : e2_run (e2_cal S_b174 I_b174 4000 1) (e2_fin rs_b174) e2x_252 (fun _ => false) (fun _ _ _ _ _ => false) 4000 (e2_seek e2x_252 0) (e2_al 1 as_b174) [] E_b174 f_b174 = true := by decide +kernel
set_option maxRecDepth 1000000 in
theorem co_b174 : e2_okSB E_b174.length as_b174 f_b174 rs_b174 = true := by decide +kernel
theorem cs_b174 (hen : en_ok) (l : Launch) : e2_smOk l 8 s_b174 := e2_con0 (H := 6) (n := 1) (C := evd_252) (S := S_b174) (I := I_b174) (fuel := 4000) [] hen ei_252 (e2_fa (cs_b128 hen l) e2_fz) (e2_fa ein_227 e2_fz) (by decide) co_b174 ex2_252 ck_b174
/-! b175 X10_weight -/
def as_b175 : List ev_V := [(2, 83, 0)]
def E_b175 : e2_E := [(2147483648, 2147583648, 0, 0), (2147483648, 2147483656, 1, 0), (2147483648, 2147483688, 2, 0), (2147483648, 2147483688, 3, 0)]
noncomputable def f_b175 : ev_H := (bn1559 : e2_Q8)
noncomputable def q_b175_0 : ev_H := (bn1559 : e2_Q8)
noncomputable def rs_b175 : e2_Rs := [((11, 0, 4294967295), q_b175_0)]
noncomputable def s_b175 : e2_Sm := (252, as_b175, E_b175, f_b175, rs_b175)
noncomputable def S_b175 : List e2_Sm := [s_b130]
noncomputable def I_b175 : List e2_In := [(227, 2, e2x_227)]
set_option maxRecDepth 1000000 in
theorem ck_b175 : e2_run (e2_cal S_b175 I_b175 4000 1) (e2_fin rs_b175) e2x_252 (fun _ => false) (fun _ _ _ _ _ => false) 4000 (e2_seek e2x_252 0) (e2_al 1 as_b175) [] E_b175 f_b175 = true := by decide +kernel
set_option maxRecDepth 1000000 in
theorem co_b175 : e2_okSB E_b175.length as_b175 f_b175 rs_b175 = true := by decide +kernel
theorem cs_b175 (hen : en_ok) (l : Launch) (hh : e2_hand_b l) : e2_smOk l 65 s_b175 := e2_con0 (H := 63) (n := 1) (C := evd_252) (S := S_b175) (I := I_b175) (fuel := 4000) [] hen ei_252 (e2_fa (cs_b130 hen l hh) e2_fz) (e2_fa ein_227 e2_fz) (by decide) co_b175 ex2_252 ck_b175
/-! b176 X10_does -/
def as_b176 : List ev_V := [(2, 83, 0), (11, 0, 4294967295)]
def E_b176 : e2_E := [(2147483648, 2147583648, 0, 0), (2147483648, 2147483656, 1, 0), (2147483648, 2147483688, 2, 0), (2147483648, 2147483688, 3, 0)]
def bc213 : ev_C := (50, [(11, 2147483648, 2147483652), (11, 2147483648, 2147483652)])
def bn1655 : e2_Q1 := (bc213, bc3)
def bn1656 : e2_Q2 := (bn228, bn1655)
def bn1657 : e2_Q3 := (bn1656, bn233)
def bn1658 : e2_Q4 := (bn227, bn1657)
def bn1659 : e2_Q5 := (bn1658, bn250)
def bn1660 : e2_Q6 := (bn1579, bn1659)
def bn1661 : e2_Q7 := (bn1019, bn1660)
def bn1662 : e2_Q8 := (bn1521, bn1661)
noncomputable def f_b176 : ev_H := (bn1662 : e2_Q8)
noncomputable def q_b176_0 : ev_H := (bn1662 : e2_Q8)
noncomputable def rs_b176 : e2_Rs := [((11, 0, 4294967295), q_b176_0)]
noncomputable def s_b176 : e2_Sm := (253, as_b176, E_b176, f_b176, rs_b176)
noncomputable def S_b176 : List e2_Sm := [s_b124, s_b132]
noncomputable def I_b176 : List e2_In := [(212, 3, e2x_212), (220, 2, e2x_220)]
set_option maxRecDepth 1000000 in
theorem ck_b176 : e2_run (e2_cal S_b176 I_b176 4000 2) (e2_fin rs_b176) e2x_253 (fun _ => false) (fun _ _ _ _ _ => false) 4000 (e2_seek e2x_253 0) (e2_al 2 as_b176) [] E_b176 f_b176 = true := by decide +kernel
set_option maxRecDepth 1000000 in
theorem co_b176 : e2_okSB E_b176.length as_b176 f_b176 rs_b176 = true := by decide +kernel
theorem cs_b176 (hen : en_ok) (l : Launch) : e2_smOk l 9 s_b176 := e2_con0 (H := 6) (n := 2) (C := evd_253) (S := S_b176) (I := I_b176) (fuel := 4000) [] hen ei_253 (e2_fa (cs_b124 hen l) (e2_fa ((cs_b132 hen l).mono (by decide)) e2_fz)) (e2_fa ein_212 (e2_fa ein_220 e2_fz)) (by decide) co_b176 ex2_253 ck_b176
/-! b177 X10_does -/
def as_b177 : List ev_V := [(2, 83, 0), (11, 0, 4294967295)]
def E_b177 : e2_E := [(2147483648, 2147583648, 0, 0), (2147483648, 2147483656, 1, 0), (2147483648, 2147483688, 2, 0), (2147483648, 2147483688, 3, 0)]
def bn1663 : e2_Q5 := (bn1658, bn311)
def bn1664 : e2_Q6 := (bn1583, bn1663)
def bn1665 : e2_Q7 := (bn1537, bn1664)
def bn1666 : e2_Q8 := (bn1534, bn1665)
noncomputable def f_b177 : ev_H := (bn1666 : e2_Q8)
noncomputable def q_b177_0 : ev_H := (bn1666 : e2_Q8)
noncomputable def rs_b177 : e2_Rs := [((11, 0, 4294967295), q_b177_0)]
noncomputable def s_b177 : e2_Sm := (253, as_b177, E_b177, f_b177, rs_b177)
noncomputable def S_b177 : List e2_Sm := [s_b126, s_b132]
noncomputable def I_b177 : List e2_In := [(212, 3, e2x_212), (220, 2, e2x_220)]
set_option maxRecDepth 1000000 in
theorem ck_b177 : e2_run (e2_cal S_b177 I_b177 4000 2) (e2_fin rs_b177) e2x_253 (fun _ => false) (fun _ _ _ _ _ => false) 4000 (e2_seek e2x_253 0) (e2_al 2 as_b177) [] E_b177 f_b177 = true := by decide +kernel
set_option maxRecDepth 1000000 in
theorem co_b177 : e2_okSB E_b177.length as_b177 f_b177 rs_b177 = true := by decide +kernel
theorem cs_b177 (hen : en_ok) (l : Launch) (hh : e2_hand_b l) : e2_smOk l 66 s_b177 := e2_con0 (H := 63) (n := 2) (C := evd_253) (S := S_b177) (I := I_b177) (fuel := 4000) [] hen ei_253 (e2_fa (cs_b126 hen l hh) (e2_fa ((cs_b132 hen l).mono (by decide)) e2_fz)) (e2_fa ein_212 (e2_fa ein_220 e2_fz)) (by decide) co_b177 ex2_253 ck_b177
/-! b178 X10_does -/
def as_b178 : List ev_V := [(2, 83, 0), (11, 0, 4294967295)]
def E_b178 : e2_E := [(2147483648, 2147583648, 0, 0), (2147483648, 2147483656, 1, 0), (2147483648, 2147483688, 2, 0), (2147483648, 2147483688, 3, 0)]
def bn1667 : e2_Q8 := (bn1549, bn1661)
noncomputable def f_b178 : ev_H := (bn1667 : e2_Q8)
noncomputable def q_b178_0 : ev_H := (bn1667 : e2_Q8)
noncomputable def rs_b178 : e2_Rs := [((11, 0, 4294967295), q_b178_0)]
noncomputable def s_b178 : e2_Sm := (253, as_b178, E_b178, f_b178, rs_b178)
noncomputable def S_b178 : List e2_Sm := [s_b128, s_b132]
noncomputable def I_b178 : List e2_In := [(212, 3, e2x_212), (220, 2, e2x_220)]
set_option maxRecDepth 1000000 in
theorem ck_b178 : e2_run (e2_cal S_b178 I_b178 4000 2) (e2_fin rs_b178) e2x_253 (fun _ => false) (fun _ _ _ _ _ => false) 4000 (e2_seek e2x_253 0) (e2_al 2 as_b178) [] E_b178 f_b178 = true := by decide +kernel
set_option maxRecDepth 1000000 in
theorem co_b178 : e2_okSB E_b178.length as_b178 f_b178 rs_b178 = true := by decide +kernel
theorem cs_b178 (hen : en_ok) (l : Launch) : e2_smOk l 9 s_b178 := e2_con0 (H := 6) (n := 2) (C := evd_253) (S := S_b178) (I := I_b178) (fuel := 4000) [] hen ei_253 (e2_fa (cs_b128 hen l) (e2_fa ((cs_b132 hen l).mono (by decide)) e2_fz)) (e2_fa ein_212 (e2_fa ein_220 e2_fz)) (by decide) co_b178 ex2_253 ck_b178
/-! b179 X10_does -/
def as_b179 : List ev_V := [(2, 83, 0), (11, 0, 4294967295)]
def E_b179 : e2_E := [(2147483648, 2147583648, 0, 0), (2147483648, 2147483656, 1, 0), (2147483648, 2147483688, 2, 0), (2147483648, 2147483688, 3, 0)]
def bn1668 : e2_Q6 := (bn1588, bn1663)
def bn1669 : e2_Q7 := (bn1537, bn1668)
def bn1670 : e2_Q8 := (bn1554, bn1669)
noncomputable def f_b179 : ev_H := (bn1670 : e2_Q8)
noncomputable def q_b179_0 : ev_H := (bn1670 : e2_Q8)
noncomputable def rs_b179 : e2_Rs := [((11, 0, 4294967295), q_b179_0)]
noncomputable def s_b179 : e2_Sm := (253, as_b179, E_b179, f_b179, rs_b179)
noncomputable def S_b179 : List e2_Sm := [s_b130, s_b132]
noncomputable def I_b179 : List e2_In := [(212, 3, e2x_212), (220, 2, e2x_220)]
set_option maxRecDepth 1000000 in
theorem ck_b179 : e2_run (e2_cal S_b179 I_b179 4000 2) (e2_fin rs_b179) e2x_253 (fun _ => false) (fun _ _ _ _ _ => false) 4000 (e2_seek e2x_253 0) (e2_al 2 as_b179) [] E_b179 f_b179 = true := by decide +kernel
set_option maxRecDepth 1000000 in
theorem co_b179 : e2_okSB E_b179.length as_b179 f_b179 rs_b179 = true := by decide +kernel
theorem cs_b179 (hen : en_ok) (l : Launch) (hh : e2_hand_b l) : e2_smOk l 66 s_b179 := e2_con0 (H := 63) (n := 2) (C := evd_253) (S := S_b179) (I := I_b179) (fuel := 4000) [] hen ei_253 (e2_fa (cs_b130 hen l hh) (e2_fa ((cs_b132 hen l).mono (by decide)) e2_fz)) (e2_fa ein_212 (e2_fa ein_220 e2_fz)) (by decide) co_b179 ex2_253 ck_b179
/-! b180 X10_goYears -/
def as_b180 : List ev_V := [(2, 83, 0), (11, 2147483648, 2147483708)]
def E_b180 : e2_E := [(2147483648, 2147583648, 0, 0), (2147483648, 2147483656, 1, 0), (2147483648, 2147483688, 2, 0), (2147483648, 2147483688, 3, 0)]
def bn1671 : e2_Q2 := (bn25, bn11)
def bn1672 : e2_Q3 := (bn369, bn1671)
def bn1673 : e2_Q4 := (bn367, bn1672)
def bn1674 : e2_Q5 := (bn1515, bn1673)
def bn1675 : e2_Q6 := (bn1674, bn475)
def bn1676 : e2_Q7 := (bn1675, bn1520)
def bn1677 : e2_Q8 := (bn1676, bn1581)
noncomputable def f_b180 : ev_H := (bn1677 : e2_Q8)
noncomputable def q_b180_0 : ev_H := (bn1677 : e2_Q8)
noncomputable def rs_b180 : e2_Rs := [((9, 0, 0), q_b180_0)]
noncomputable def s_b180 : e2_Sm := (254, as_b180, E_b180, f_b180, rs_b180)
noncomputable def S_b180 : List e2_Sm := [s_b153]
noncomputable def I_b180 : List e2_In := []
set_option maxRecDepth 1000000 in
theorem co_b180 : e2_okSB E_b180.length as_b180 f_b180 rs_b180 = true := by decide +kernel
def al_b180_0 : List ev_V := [(2, 83, 0), (11, 2147483648, 2147483708), (1, 4, 4294967296)]
def E_b180_0 : e2_E := [(2147483648, 2147583648, 0, 0), (2147483648, 2147483656, 1, 0), (2147483648, 2147483688, 2, 0), (2147483648, 2147483688, 3, 0), (2147483648, 2147483674, 4, 0)]
noncomputable def h_b180_0 : ev_H := (bn1677 : e2_Q8)
def al_b180_1 : List ev_V := [(2, 83, 0), (11, 2147483648, 2147483708), (1, 4, 4294967296)]
def E_b180_1 : e2_E := [(2147483648, 2147583648, 0, 0), (2147483648, 2147483656, 1, 0), (2147483648, 2147483688, 2, 0), (2147483648, 2147483688, 3, 0), (2147483648, 2147483708, 4, 0)]
noncomputable def h_b180_1 : ev_H := (bn1677 : e2_Q8)
noncomputable def cl_b180_e : List (Nat × e2_S) := [(2, e2_cutL (al_b180_0.set 2 (11, 2147483648, 2147483674)) 4 (E_b180_0.take 4) h_b180_0)]
set_option maxRecDepth 1000000 in
theorem ck_b180_e : e2_run (e2_cal S_b180 I_b180 4000 0) (e2_fin rs_b180) e2x_254 (e2_bpL cl_b180_e) (e2_cutA cl_b180_e) 4000 (e2_seek e2x_254 0) (e2_al 3 as_b180) [] E_b180 f_b180 = true := by decide +kernel
noncomputable def cl_b180_0 : List (Nat × e2_S) := [(2, e2_cutL (al_b180_0.set 2 (13, 12, 2147483674)) 4 (E_b180_0.take 4) h_b180_0),
  (28, e2_cutL (al_b180_1.set 2 (11, 2147483648, 2147483708)) 4 (E_b180_1.take 4) h_b180_1)]
set_option maxRecDepth 1000000 in
theorem ck_b180_0 : e2_runM (e2_cal S_b180 I_b180 4000 0) (e2_fin rs_b180) e2x_254 (e2_bpL cl_b180_0) (e2_cutA cl_b180_0) 4000 (e2_seek e2x_254 2) al_b180_0 [] E_b180_0 h_b180_0 = true := by decide +kernel
set_option maxRecDepth 1000000 in
theorem ci_b180_0 : e2_idl 4 (al_b180_0.set 2 (9, 0, 0)) = true := by decide +kernel
set_option maxRecDepth 1000000 in
theorem cj_b180_0 : e2_idh 4 8 h_b180_0 = true := by decide +kernel
noncomputable def cl_b180_1 : List (Nat × e2_S) := [(28, e2_cutL (al_b180_1.set 2 (13, 12, 2147483708)) 4 (E_b180_1.take 4) h_b180_1)]
set_option maxRecDepth 1000000 in
theorem ck_b180_1 : e2_runM (e2_cal S_b180 I_b180 4000 0) (e2_fin rs_b180) e2x_254 (e2_bpL cl_b180_1) (e2_cutA cl_b180_1) 4000 (e2_seek e2x_254 28) al_b180_1 [] E_b180_1 h_b180_1 = true := by decide +kernel
set_option maxRecDepth 1000000 in
theorem ci_b180_1 : e2_idl 4 (al_b180_1.set 2 (9, 0, 0)) = true := by decide +kernel
set_option maxRecDepth 1000000 in
theorem cj_b180_1 : e2_idh 4 8 h_b180_1 = true := by decide +kernel
theorem cs_b180 (hen : en_ok) (l : Launch) : e2_smOk l 9 s_b180 := by
  refine e2_conG (H := 8) (n := 0) (C := evd_254) (S := S_b180) (I := I_b180) (fuel := 4000) hen ei_254 (e2_fa (cs_b153 hen l) e2_fz) e2_fz (by decide) co_b180 fun M d _ hC hcall p e R s m args below meth c Q D cA A ads r0 ha hl0 => ?_
  have L_1 : e2_gdM M p l e R s m args below meth c Q D cA A ads r0 28 al_b180_1 [] E_b180_1 h_b180_1 := by
    refine e2_indL (u := 4) (j := 2) (lo := 2147483648) (hi := 2147483708) (b := 4) (dd := 0) hl0 (by decide) rfl rfl (Or.inr ⟨rfl, rfl⟩) rfl ci_b180_1 cj_b180_1 ?_
    intro r_1 k_1 hk_1 hp_1 hs_1 hn_1
    have hl_1 : r_1.length ≤ 5 := hs_1.len rfl
    have ha_1 := ha.ext hp_1
    exact e2_fromM hen ha_1 hcall (e2_cutA_ok (e2_fa (fun al st E h hc => hn_1 al st E h hc) e2_fz)) (hC [12]) (X := e2x_254) ex2_254 28 ck_b180_1
  have EN_1 := e2_entL (u := 4) (j := 2) (lo := 2147483648) (hi := 2147483708) hl0 rfl rfl rfl ci_b180_1 cj_b180_1 L_1
  have L_0 : e2_gdM M p l e R s m args below meth c Q D cA A ads r0 2 al_b180_0 [] E_b180_0 h_b180_0 := by
    refine e2_indL (u := 4) (j := 2) (lo := 2147483648) (hi := 2147483674) (b := 4) (dd := 0) hl0 (by decide) rfl rfl (Or.inr ⟨rfl, rfl⟩) rfl ci_b180_0 cj_b180_0 ?_
    intro r_0 k_0 hk_0 hp_0 hs_0 hn_0
    have hl_0 : r_0.length ≤ 5 := hs_0.len rfl
    have ha_0 := ha.ext hp_0
    exact e2_fromM hen ha_0 hcall (e2_cutA_ok (e2_fa (fun al st E h hc => hn_0 al st E h hc) (e2_fa (fun al st E h hc => (EN_1 al st E h hc).ext hp_0) e2_fz))) (hC [12]) (X := e2x_254) ex2_254 2 ck_b180_0
  have EN_0 := e2_entL (u := 4) (j := 2) (lo := 2147483648) (hi := 2147483674) hl0 rfl rfl rfl ci_b180_0 cj_b180_0 L_0
  exact e2_from hen ha hcall (e2_cutA_ok (e2_fa (fun al st E h hc => EN_0 al st E h hc) e2_fz)) (hC [12]) (X := e2x_254) ex2_254 0 ck_b180_e
/-! b181 X10_goYears -/
def as_b181 : List ev_V := [(2, 83, 0), (11, 2147483648, 2147483708)]
def E_b181 : e2_E := [(2147483648, 2147583648, 0, 0), (2147483648, 2147483656, 1, 0), (2147483648, 2147483688, 2, 0), (2147483648, 2147483688, 3, 0)]
def bn1678 : e2_Q4 := (bn396, bn1672)
def bn1679 : e2_Q5 := (bn1515, bn1678)
def bn1680 : e2_Q6 := (bn1679, bn1531)
def bn1681 : e2_Q7 := (bn1680, bn1533)
def bn1682 : e2_Q8 := (bn1681, bn1585)
noncomputable def f_b181 : ev_H := (bn1682 : e2_Q8)
noncomputable def q_b181_0 : ev_H := (bn1682 : e2_Q8)
noncomputable def rs_b181 : e2_Rs := [((9, 0, 0), q_b181_0)]
noncomputable def s_b181 : e2_Sm := (254, as_b181, E_b181, f_b181, rs_b181)
noncomputable def S_b181 : List e2_Sm := [s_b155]
noncomputable def I_b181 : List e2_In := []
set_option maxRecDepth 1000000 in
theorem co_b181 : e2_okSB E_b181.length as_b181 f_b181 rs_b181 = true := by decide +kernel
def al_b181_0 : List ev_V := [(2, 83, 0), (11, 2147483648, 2147483708), (1, 4, 4294967296)]
def E_b181_0 : e2_E := [(2147483648, 2147583648, 0, 0), (2147483648, 2147483656, 1, 0), (2147483648, 2147483688, 2, 0), (2147483648, 2147483688, 3, 0), (2147483648, 2147483674, 4, 0)]
noncomputable def h_b181_0 : ev_H := (bn1682 : e2_Q8)
def al_b181_1 : List ev_V := [(2, 83, 0), (11, 2147483648, 2147483708), (1, 4, 4294967296)]
def E_b181_1 : e2_E := [(2147483648, 2147583648, 0, 0), (2147483648, 2147483656, 1, 0), (2147483648, 2147483688, 2, 0), (2147483648, 2147483688, 3, 0), (2147483648, 2147483708, 4, 0)]
noncomputable def h_b181_1 : ev_H := (bn1682 : e2_Q8)
noncomputable def cl_b181_e : List (Nat × e2_S) := [(2, e2_cutL (al_b181_0.set 2 (11, 2147483648, 2147483674)) 4 (E_b181_0.take 4) h_b181_0)]
set_option maxRecDepth 1000000 in
theorem ck_b181_e : e2_run (e2_cal S_b181 I_b181 4000 0) (e2_fin rs_b181) e2x_254 (e2_bpL cl_b181_e) (e2_cutA cl_b181_e) 4000 (e2_seek e2x_254 0) (e2_al 3 as_b181) [] E_b181 f_b181 = true := by decide +kernel
noncomputable def cl_b181_0 : List (Nat × e2_S) := [(2, e2_cutL (al_b181_0.set 2 (13, 12, 2147483674)) 4 (E_b181_0.take 4) h_b181_0),
  (28, e2_cutL (al_b181_1.set 2 (11, 2147483648, 2147483708)) 4 (E_b181_1.take 4) h_b181_1)]
set_option maxRecDepth 1000000 in
theorem ck_b181_0 : e2_runM (e2_cal S_b181 I_b181 4000 0) (e2_fin rs_b181) e2x_254 (e2_bpL cl_b181_0) (e2_cutA cl_b181_0) 4000 (e2_seek e2x_254 2) al_b181_0 [] E_b181_0 h_b181_0 = true := by decide +kernel
set_option maxRecDepth 1000000 in
theorem ci_b181_0 : e2_idl 4 (al_b181_0.set 2 (9, 0, 0)) = true := by decide +kernel
set_option maxRecDepth 1000000 in
theorem cj_b181_0 : e2_idh 4 8 h_b181_0 = true := by decide +kernel
noncomputable def cl_b181_1 : List (Nat × e2_S) := [(28, e2_cutL (al_b181_1.set 2 (13, 12, 2147483708)) 4 (E_b181_1.take 4) h_b181_1)]
set_option maxRecDepth 1000000 in
theorem ck_b181_1 : e2_runM (e2_cal S_b181 I_b181 4000 0) (e2_fin rs_b181) e2x_254 (e2_bpL cl_b181_1) (e2_cutA cl_b181_1) 4000 (e2_seek e2x_254 28) al_b181_1 [] E_b181_1 h_b181_1 = true := by decide +kernel
set_option maxRecDepth 1000000 in
theorem ci_b181_1 : e2_idl 4 (al_b181_1.set 2 (9, 0, 0)) = true := by decide +kernel
set_option maxRecDepth 1000000 in
theorem cj_b181_1 : e2_idh 4 8 h_b181_1 = true := by decide +kernel
theorem cs_b181 (hen : en_ok) (l : Launch) (hh : e2_hand_b l) : e2_smOk l 66 s_b181 := by
  refine e2_conG (H := 65) (n := 0) (C := evd_254) (S := S_b181) (I := I_b181) (fuel := 4000) hen ei_254 (e2_fa (cs_b155 hen l hh) e2_fz) e2_fz (by decide) co_b181 fun M d _ hC hcall p e R s m args below meth c Q D cA A ads r0 ha hl0 => ?_
  have L_1 : e2_gdM M p l e R s m args below meth c Q D cA A ads r0 28 al_b181_1 [] E_b181_1 h_b181_1 := by
    refine e2_indL (u := 4) (j := 2) (lo := 2147483648) (hi := 2147483708) (b := 4) (dd := 0) hl0 (by decide) rfl rfl (Or.inr ⟨rfl, rfl⟩) rfl ci_b181_1 cj_b181_1 ?_
    intro r_1 k_1 hk_1 hp_1 hs_1 hn_1
    have hl_1 : r_1.length ≤ 5 := hs_1.len rfl
    have ha_1 := ha.ext hp_1
    exact e2_fromM hen ha_1 hcall (e2_cutA_ok (e2_fa (fun al st E h hc => hn_1 al st E h hc) e2_fz)) (hC [12]) (X := e2x_254) ex2_254 28 ck_b181_1
  have EN_1 := e2_entL (u := 4) (j := 2) (lo := 2147483648) (hi := 2147483708) hl0 rfl rfl rfl ci_b181_1 cj_b181_1 L_1
  have L_0 : e2_gdM M p l e R s m args below meth c Q D cA A ads r0 2 al_b181_0 [] E_b181_0 h_b181_0 := by
    refine e2_indL (u := 4) (j := 2) (lo := 2147483648) (hi := 2147483674) (b := 4) (dd := 0) hl0 (by decide) rfl rfl (Or.inr ⟨rfl, rfl⟩) rfl ci_b181_0 cj_b181_0 ?_
    intro r_0 k_0 hk_0 hp_0 hs_0 hn_0
    have hl_0 : r_0.length ≤ 5 := hs_0.len rfl
    have ha_0 := ha.ext hp_0
    exact e2_fromM hen ha_0 hcall (e2_cutA_ok (e2_fa (fun al st E h hc => hn_0 al st E h hc) (e2_fa (fun al st E h hc => (EN_1 al st E h hc).ext hp_0) e2_fz))) (hC [12]) (X := e2x_254) ex2_254 2 ck_b181_0
  have EN_0 := e2_entL (u := 4) (j := 2) (lo := 2147483648) (hi := 2147483674) hl0 rfl rfl rfl ci_b181_0 cj_b181_0 L_0
  exact e2_from hen ha hcall (e2_cutA_ok (e2_fa (fun al st E h hc => EN_0 al st E h hc) e2_fz)) (hC [12]) (X := e2x_254) ex2_254 0 ck_b181_e
/-! b182 X10_goYears -/
def as_b182 : List ev_V := [(2, 83, 0), (11, 2147483648, 2147483708)]
def E_b182 : e2_E := [(2147483648, 2147583648, 0, 0), (2147483648, 2147483656, 1, 0), (2147483648, 2147483688, 2, 0), (2147483648, 2147483688, 3, 0)]
def bn1683 : e2_Q4 := (bn411, bn1672)
def bn1684 : e2_Q5 := (bn1515, bn1683)
def bn1685 : e2_Q6 := (bn1684, bn1531)
def bn1686 : e2_Q7 := (bn1685, bn1533)
def bn1687 : e2_Q8 := (bn1686, bn1617)
noncomputable def f_b182 : ev_H := (bn1687 : e2_Q8)
noncomputable def q_b182_0 : ev_H := (bn1687 : e2_Q8)
noncomputable def rs_b182 : e2_Rs := [((9, 0, 0), q_b182_0)]
noncomputable def s_b182 : e2_Sm := (254, as_b182, E_b182, f_b182, rs_b182)
noncomputable def S_b182 : List e2_Sm := [s_b157]
noncomputable def I_b182 : List e2_In := []
set_option maxRecDepth 1000000 in
theorem co_b182 : e2_okSB E_b182.length as_b182 f_b182 rs_b182 = true := by decide +kernel
def al_b182_0 : List ev_V := [(2, 83, 0), (11, 2147483648, 2147483708), (1, 4, 4294967296)]
def E_b182_0 : e2_E := [(2147483648, 2147583648, 0, 0), (2147483648, 2147483656, 1, 0), (2147483648, 2147483688, 2, 0), (2147483648, 2147483688, 3, 0), (2147483648, 2147483674, 4, 0)]
noncomputable def h_b182_0 : ev_H := (bn1687 : e2_Q8)
def al_b182_1 : List ev_V := [(2, 83, 0), (11, 2147483648, 2147483708), (1, 4, 4294967296)]
def E_b182_1 : e2_E := [(2147483648, 2147583648, 0, 0), (2147483648, 2147483656, 1, 0), (2147483648, 2147483688, 2, 0), (2147483648, 2147483688, 3, 0), (2147483648, 2147483708, 4, 0)]
noncomputable def h_b182_1 : ev_H := (bn1687 : e2_Q8)
noncomputable def cl_b182_e : List (Nat × e2_S) := [(2, e2_cutL (al_b182_0.set 2 (11, 2147483648, 2147483674)) 4 (E_b182_0.take 4) h_b182_0)]
set_option maxRecDepth 1000000 in
theorem ck_b182_e : e2_run (e2_cal S_b182 I_b182 4000 0) (e2_fin rs_b182) e2x_254 (e2_bpL cl_b182_e) (e2_cutA cl_b182_e) 4000 (e2_seek e2x_254 0) (e2_al 3 as_b182) [] E_b182 f_b182 = true := by decide +kernel
noncomputable def cl_b182_0 : List (Nat × e2_S) := [(2, e2_cutL (al_b182_0.set 2 (13, 12, 2147483674)) 4 (E_b182_0.take 4) h_b182_0),
  (28, e2_cutL (al_b182_1.set 2 (11, 2147483648, 2147483708)) 4 (E_b182_1.take 4) h_b182_1)]
set_option maxRecDepth 1000000 in
theorem ck_b182_0 : e2_runM (e2_cal S_b182 I_b182 4000 0) (e2_fin rs_b182) e2x_254 (e2_bpL cl_b182_0) (e2_cutA cl_b182_0) 4000 (e2_seek e2x_254 2) al_b182_0 [] E_b182_0 h_b182_0 = true := by decide +kernel
set_option maxRecDepth 1000000 in
theorem ci_b182_0 : e2_idl 4 (al_b182_0.set 2 (9, 0, 0)) = true := by decide +kernel
set_option maxRecDepth 1000000 in
theorem cj_b182_0 : e2_idh 4 8 h_b182_0 = true := by decide +kernel
noncomputable def cl_b182_1 : List (Nat × e2_S) := [(28, e2_cutL (al_b182_1.set 2 (13, 12, 2147483708)) 4 (E_b182_1.take 4) h_b182_1)]
set_option maxRecDepth 1000000 in
theorem ck_b182_1 : e2_runM (e2_cal S_b182 I_b182 4000 0) (e2_fin rs_b182) e2x_254 (e2_bpL cl_b182_1) (e2_cutA cl_b182_1) 4000 (e2_seek e2x_254 28) al_b182_1 [] E_b182_1 h_b182_1 = true := by decide +kernel
set_option maxRecDepth 1000000 in
theorem ci_b182_1 : e2_idl 4 (al_b182_1.set 2 (9, 0, 0)) = true := by decide +kernel
set_option maxRecDepth 1000000 in
theorem cj_b182_1 : e2_idh 4 8 h_b182_1 = true := by decide +kernel
theorem cs_b182 (hen : en_ok) (l : Launch) (hh : e2_hand_b l) : e2_smOk l 63 s_b182 := by
  refine e2_conG (H := 62) (n := 0) (C := evd_254) (S := S_b182) (I := I_b182) (fuel := 4000) hen ei_254 (e2_fa (cs_b157 hen l hh) e2_fz) e2_fz (by decide) co_b182 fun M d _ hC hcall p e R s m args below meth c Q D cA A ads r0 ha hl0 => ?_
  have L_1 : e2_gdM M p l e R s m args below meth c Q D cA A ads r0 28 al_b182_1 [] E_b182_1 h_b182_1 := by
    refine e2_indL (u := 4) (j := 2) (lo := 2147483648) (hi := 2147483708) (b := 4) (dd := 0) hl0 (by decide) rfl rfl (Or.inr ⟨rfl, rfl⟩) rfl ci_b182_1 cj_b182_1 ?_
    intro r_1 k_1 hk_1 hp_1 hs_1 hn_1
    have hl_1 : r_1.length ≤ 5 := hs_1.len rfl
    have ha_1 := ha.ext hp_1
    exact e2_fromM hen ha_1 hcall (e2_cutA_ok (e2_fa (fun al st E h hc => hn_1 al st E h hc) e2_fz)) (hC [12]) (X := e2x_254) ex2_254 28 ck_b182_1
  have EN_1 := e2_entL (u := 4) (j := 2) (lo := 2147483648) (hi := 2147483708) hl0 rfl rfl rfl ci_b182_1 cj_b182_1 L_1
  have L_0 : e2_gdM M p l e R s m args below meth c Q D cA A ads r0 2 al_b182_0 [] E_b182_0 h_b182_0 := by
    refine e2_indL (u := 4) (j := 2) (lo := 2147483648) (hi := 2147483674) (b := 4) (dd := 0) hl0 (by decide) rfl rfl (Or.inr ⟨rfl, rfl⟩) rfl ci_b182_0 cj_b182_0 ?_
    intro r_0 k_0 hk_0 hp_0 hs_0 hn_0
    have hl_0 : r_0.length ≤ 5 := hs_0.len rfl
    have ha_0 := ha.ext hp_0
    exact e2_fromM hen ha_0 hcall (e2_cutA_ok (e2_fa (fun al st E h hc => hn_0 al st E h hc) (e2_fa (fun al st E h hc => (EN_1 al st E h hc).ext hp_0) e2_fz))) (hC [12]) (X := e2x_254) ex2_254 2 ck_b182_0
  have EN_0 := e2_entL (u := 4) (j := 2) (lo := 2147483648) (hi := 2147483674) hl0 rfl rfl rfl ci_b182_0 cj_b182_0 L_0
  exact e2_from hen ha hcall (e2_cutA_ok (e2_fa (fun al st E h hc => EN_0 al st E h hc) e2_fz)) (hC [12]) (X := e2x_254) ex2_254 0 ck_b182_e
/-! b183 X10_goYears -/
def as_b183 : List ev_V := [(2, 83, 0), (11, 2147483648, 2147483708)]
def E_b183 : e2_E := [(2147483648, 2147583648, 0, 0), (2147483648, 2147483656, 1, 0), (2147483648, 2147483688, 2, 0), (2147483648, 2147483688, 3, 0)]
def bn1688 : e2_Q4 := (bn420, bn1672)
def bn1689 : e2_Q5 := (bn1515, bn1688)
def bn1690 : e2_Q6 := (bn1689, bn1531)
def bn1691 : e2_Q7 := (bn1690, bn1533)
def bn1692 : e2_Q8 := (bn1691, bn1590)
noncomputable def f_b183 : ev_H := (bn1692 : e2_Q8)
noncomputable def q_b183_0 : ev_H := (bn1692 : e2_Q8)
noncomputable def rs_b183 : e2_Rs := [((9, 0, 0), q_b183_0)]
noncomputable def s_b183 : e2_Sm := (254, as_b183, E_b183, f_b183, rs_b183)
noncomputable def S_b183 : List e2_Sm := [s_b159]
noncomputable def I_b183 : List e2_In := []
set_option maxRecDepth 1000000 in
theorem co_b183 : e2_okSB E_b183.length as_b183 f_b183 rs_b183 = true := by decide +kernel
def al_b183_0 : List ev_V := [(2, 83, 0), (11, 2147483648, 2147483708), (1, 4, 4294967296)]
def E_b183_0 : e2_E := [(2147483648, 2147583648, 0, 0), (2147483648, 2147483656, 1, 0), (2147483648, 2147483688, 2, 0), (2147483648, 2147483688, 3, 0), (2147483648, 2147483674, 4, 0)]
noncomputable def h_b183_0 : ev_H := (bn1692 : e2_Q8)
def al_b183_1 : List ev_V := [(2, 83, 0), (11, 2147483648, 2147483708), (1, 4, 4294967296)]
def E_b183_1 : e2_E := [(2147483648, 2147583648, 0, 0), (2147483648, 2147483656, 1, 0), (2147483648, 2147483688, 2, 0), (2147483648, 2147483688, 3, 0), (2147483648, 2147483708, 4, 0)]
noncomputable def h_b183_1 : ev_H := (bn1692 : e2_Q8)
noncomputable def cl_b183_e : List (Nat × e2_S) := [(2, e2_cutL (al_b183_0.set 2 (11, 2147483648, 2147483674)) 4 (E_b183_0.take 4) h_b183_0)]
set_option maxRecDepth 1000000 in
theorem ck_b183_e : e2_run (e2_cal S_b183 I_b183 4000 0) (e2_fin rs_b183) e2x_254 (e2_bpL cl_b183_e) (e2_cutA cl_b183_e) 4000 (e2_seek e2x_254 0) (e2_al 3 as_b183) [] E_b183 f_b183 = true := by decide +kernel
noncomputable def cl_b183_0 : List (Nat × e2_S) := [(2, e2_cutL (al_b183_0.set 2 (13, 12, 2147483674)) 4 (E_b183_0.take 4) h_b183_0),
  (28, e2_cutL (al_b183_1.set 2 (11, 2147483648, 2147483708)) 4 (E_b183_1.take 4) h_b183_1)]
set_option maxRecDepth 1000000 in
theorem ck_b183_0 : e2_runM (e2_cal S_b183 I_b183 4000 0) (e2_fin rs_b183) e2x_254 (e2_bpL cl_b183_0) (e2_cutA cl_b183_0) 4000 (e2_seek e2x_254 2) al_b183_0 [] E_b183_0 h_b183_0 = true := by decide +kernel
set_option maxRecDepth 1000000 in
theorem ci_b183_0 : e2_idl 4 (al_b183_0.set 2 (9, 0, 0)) = true := by decide +kernel
set_option maxRecDepth 1000000 in
theorem cj_b183_0 : e2_idh 4 8 h_b183_0 = true := by decide +kernel
noncomputable def cl_b183_1 : List (Nat × e2_S) := [(28, e2_cutL (al_b183_1.set 2 (13, 12, 2147483708)) 4 (E_b183_1.take 4) h_b183_1)]
set_option maxRecDepth 1000000 in
theorem ck_b183_1 : e2_runM (e2_cal S_b183 I_b183 4000 0) (e2_fin rs_b183) e2x_254 (e2_bpL cl_b183_1) (e2_cutA cl_b183_1) 4000 (e2_seek e2x_254 28) al_b183_1 [] E_b183_1 h_b183_1 = true := by decide +kernel
set_option maxRecDepth 1000000 in
theorem ci_b183_1 : e2_idl 4 (al_b183_1.set 2 (9, 0, 0)) = true := by decide +kernel
set_option maxRecDepth 1000000 in
theorem cj_b183_1 : e2_idh 4 8 h_b183_1 = true := by decide +kernel
theorem cs_b183 (hen : en_ok) (l : Launch) (hh : e2_hand_b l) : e2_smOk l 66 s_b183 := by
  refine e2_conG (H := 65) (n := 0) (C := evd_254) (S := S_b183) (I := I_b183) (fuel := 4000) hen ei_254 (e2_fa (cs_b159 hen l hh) e2_fz) e2_fz (by decide) co_b183 fun M d _ hC hcall p e R s m args below meth c Q D cA A ads r0 ha hl0 => ?_
  have L_1 : e2_gdM M p l e R s m args below meth c Q D cA A ads r0 28 al_b183_1 [] E_b183_1 h_b183_1 := by
    refine e2_indL (u := 4) (j := 2) (lo := 2147483648) (hi := 2147483708) (b := 4) (dd := 0) hl0 (by decide) rfl rfl (Or.inr ⟨rfl, rfl⟩) rfl ci_b183_1 cj_b183_1 ?_
    intro r_1 k_1 hk_1 hp_1 hs_1 hn_1
    have hl_1 : r_1.length ≤ 5 := hs_1.len rfl
    have ha_1 := ha.ext hp_1
    exact e2_fromM hen ha_1 hcall (e2_cutA_ok (e2_fa (fun al st E h hc => hn_1 al st E h hc) e2_fz)) (hC [12]) (X := e2x_254) ex2_254 28 ck_b183_1
  have EN_1 := e2_entL (u := 4) (j := 2) (lo := 2147483648) (hi := 2147483708) hl0 rfl rfl rfl ci_b183_1 cj_b183_1 L_1
  have L_0 : e2_gdM M p l e R s m args below meth c Q D cA A ads r0 2 al_b183_0 [] E_b183_0 h_b183_0 := by
    refine e2_indL (u := 4) (j := 2) (lo := 2147483648) (hi := 2147483674) (b := 4) (dd := 0) hl0 (by decide) rfl rfl (Or.inr ⟨rfl, rfl⟩) rfl ci_b183_0 cj_b183_0 ?_
    intro r_0 k_0 hk_0 hp_0 hs_0 hn_0
    have hl_0 : r_0.length ≤ 5 := hs_0.len rfl
    have ha_0 := ha.ext hp_0
    exact e2_fromM hen ha_0 hcall (e2_cutA_ok (e2_fa (fun al st E h hc => hn_0 al st E h hc) (e2_fa (fun al st E h hc => (EN_1 al st E h hc).ext hp_0) e2_fz))) (hC [12]) (X := e2x_254) ex2_254 2 ck_b183_0
  have EN_0 := e2_entL (u := 4) (j := 2) (lo := 2147483648) (hi := 2147483674) hl0 rfl rfl rfl ci_b183_0 cj_b183_0 L_0
  exact e2_from hen ha hcall (e2_cutA_ok (e2_fa (fun al st E h hc => EN_0 al st E h hc) e2_fz)) (hC [12]) (X := e2x_254) ex2_254 0 ck_b183_e
/-! b184 X10_bringBack -/
def as_b184 : List ev_V := [(2, 83, 0)]
def E_b184 : e2_E := [(2147483648, 2147583648, 0, 0), (2147483648, 2147483656, 1, 0), (2147483648, 2147483688, 2, 0), (2147483648, 2147483688, 3, 0)]
def bn1693 : e2_Q3 := (bn24, bn1671)
def bn1694 : e2_Q4 := (bn21, bn1693)
def bn1695 : e2_Q5 := (bn14, bn1694)
def bn1696 : e2_Q6 := (bn1695, bn61)
def bn1697 : e2_Q7 := (bn1696, bn274)
def bn1698 : e2_Q8 := (bn1697, bn253)
noncomputable def f_b184 : ev_H := (bn1698 : e2_Q8)
noncomputable def q_b184_0 : ev_H := (bn1698 : e2_Q8)
noncomputable def rs_b184 : e2_Rs := [((9, 0, 0), q_b184_0)]
noncomputable def s_b184 : e2_Sm := (255, as_b184, E_b184, f_b184, rs_b184)
noncomputable def S_b184 : List e2_Sm := []
noncomputable def I_b184 : List e2_In := []
set_option maxRecDepth 1000000 in
theorem co_b184 : e2_okSB E_b184.length as_b184 f_b184 rs_b184 = true := by decide +kernel
def al_b184_0 : List ev_V := [(2, 83, 0), (1, 4, 4294967296)]
def E_b184_0 : e2_E := [(2147483648, 2147583648, 0, 0), (2147483648, 2147483656, 1, 0), (2147483648, 2147483688, 2, 0), (2147483648, 2147483688, 3, 0), (2147483648, 2147483674, 4, 0)]
noncomputable def h_b184_0 : ev_H := (bn1698 : e2_Q8)
noncomputable def cl_b184_e : List (Nat × e2_S) := [(2, e2_cutL (al_b184_0.set 1 (11, 2147483648, 2147483674)) 4 (E_b184_0.take 4) h_b184_0)]
set_option maxRecDepth 1000000 in
theorem ck_b184_e : e2_run (e2_cal S_b184 I_b184 4000 0) (e2_fin rs_b184) e2x_255 (e2_bpL cl_b184_e) (e2_cutA cl_b184_e) 4000 (e2_seek e2x_255 0) (e2_al 2 as_b184) [] E_b184 f_b184 = true := by decide +kernel
noncomputable def cl_b184_0 : List (Nat × e2_S) := [(2, e2_cutL (al_b184_0.set 1 (13, 12, 2147483674)) 4 (E_b184_0.take 4) h_b184_0)]
set_option maxRecDepth 1000000 in
theorem ck_b184_0 : e2_runM (e2_cal S_b184 I_b184 4000 0) (e2_fin rs_b184) e2x_255 (e2_bpL cl_b184_0) (e2_cutA cl_b184_0) 4000 (e2_seek e2x_255 2) al_b184_0 [] E_b184_0 h_b184_0 = true := by decide +kernel
set_option maxRecDepth 1000000 in
theorem ci_b184_0 : e2_idl 4 (al_b184_0.set 1 (9, 0, 0)) = true := by decide +kernel
set_option maxRecDepth 1000000 in
theorem cj_b184_0 : e2_idh 4 8 h_b184_0 = true := by decide +kernel
theorem cs_b184 (hen : en_ok) (l : Launch) : e2_smOk l 1 s_b184 := by
  refine e2_conG (H := 0) (n := 0) (C := evd_255) (S := S_b184) (I := I_b184) (fuel := 4000) hen ei_255 e2_fz e2_fz (by decide) co_b184 fun M d _ hC hcall p e R s m args below meth c Q D cA A ads r0 ha hl0 => ?_
  have L_0 : e2_gdM M p l e R s m args below meth c Q D cA A ads r0 2 al_b184_0 [] E_b184_0 h_b184_0 := by
    refine e2_indL (u := 4) (j := 1) (lo := 2147483648) (hi := 2147483674) (b := 4) (dd := 0) hl0 (by decide) rfl rfl (Or.inr ⟨rfl, rfl⟩) rfl ci_b184_0 cj_b184_0 ?_
    intro r_0 k_0 hk_0 hp_0 hs_0 hn_0
    have hl_0 : r_0.length ≤ 5 := hs_0.len rfl
    have ha_0 := ha.ext hp_0
    exact e2_fromM hen ha_0 hcall (e2_cutA_ok (e2_fa (fun al st E h hc => hn_0 al st E h hc) e2_fz)) (hC [12]) (X := e2x_255) ex2_255 2 ck_b184_0
  have EN_0 := e2_entL (u := 4) (j := 1) (lo := 2147483648) (hi := 2147483674) hl0 rfl rfl rfl ci_b184_0 cj_b184_0 L_0
  exact e2_from hen ha hcall (e2_cutA_ok (e2_fa (fun al st E h hc => EN_0 al st E h hc) e2_fz)) (hC [12]) (X := e2x_255) ex2_255 0 ck_b184_e
/-! b185 X10_will -/
def as_b185 : List ev_V := [(2, 83, 0), (11, 0, 4294967295), (11, 0, 4294967295)]
def E_b185 : e2_E := [(2147483648, 2147583648, 0, 0), (2147483648, 2147483656, 1, 0), (2147483648, 2147483688, 2, 0), (2147483648, 2147483688, 3, 0)]
def bn1699 : e2_Q8 := (bn1676, bn1661)
noncomputable def f_b185 : ev_H := (bn1699 : e2_Q8)
noncomputable def q_b185_0 : ev_H := (bn1699 : e2_Q8)
noncomputable def rs_b185 : e2_Rs := [((11, 0, 4294967295), q_b185_0)]
noncomputable def s_b185 : e2_Sm := (256, as_b185, E_b185, f_b185, rs_b185)
noncomputable def S_b185 : List e2_Sm := [s_b180, s_b184]
noncomputable def I_b185 : List e2_In := [(212, 3, e2x_212), (220, 2, e2x_220)]
set_option maxRecDepth 1000000 in
theorem ck_b185 : e2_run (e2_cal S_b185 I_b185 4000 2) (e2_fin rs_b185) e2x_256 (fun _ => false) (fun _ _ _ _ _ => false) 4000 (e2_seek e2x_256 0) (e2_al 4 as_b185) [] E_b185 f_b185 = true := by decide +kernel
set_option maxRecDepth 1000000 in
theorem co_b185 : e2_okSB E_b185.length as_b185 f_b185 rs_b185 = true := by decide +kernel
theorem cs_b185 (hen : en_ok) (l : Launch) : e2_smOk l 12 s_b185 := e2_con0 (H := 9) (n := 2) (C := evd_256) (S := S_b185) (I := I_b185) (fuel := 4000) [] hen ei_256 (e2_fa (cs_b180 hen l) (e2_fa ((cs_b184 hen l).mono (by decide)) e2_fz)) (e2_fa ein_212 (e2_fa ein_220 e2_fz)) (by decide) co_b185 ex2_256 ck_b185
/-! b186 X10_will -/
def as_b186 : List ev_V := [(2, 83, 0), (11, 0, 4294967295), (11, 0, 4294967295)]
def E_b186 : e2_E := [(2147483648, 2147583648, 0, 0), (2147483648, 2147483656, 1, 0), (2147483648, 2147483688, 2, 0), (2147483648, 2147483688, 3, 0)]
def bn1700 : e2_Q8 := (bn1681, bn1665)
noncomputable def f_b186 : ev_H := (bn1700 : e2_Q8)
noncomputable def q_b186_0 : ev_H := (bn1700 : e2_Q8)
noncomputable def rs_b186 : e2_Rs := [((11, 0, 4294967295), q_b186_0)]
noncomputable def s_b186 : e2_Sm := (256, as_b186, E_b186, f_b186, rs_b186)
noncomputable def S_b186 : List e2_Sm := [s_b181, s_b184]
noncomputable def I_b186 : List e2_In := [(212, 3, e2x_212), (220, 2, e2x_220)]
set_option maxRecDepth 1000000 in
theorem ck_b186 : e2_run (e2_cal S_b186 I_b186 4000 2) (e2_fin rs_b186) e2x_256 (fun _ => false) (fun _ _ _ _ _ => false) 4000 (e2_seek e2x_256 0) (e2_al 4 as_b186) [] E_b186 f_b186 = true := by decide +kernel
set_option maxRecDepth 1000000 in
theorem co_b186 : e2_okSB E_b186.length as_b186 f_b186 rs_b186 = true := by decide +kernel
theorem cs_b186 (hen : en_ok) (l : Launch) (hh : e2_hand_b l) : e2_smOk l 69 s_b186 := e2_con0 (H := 66) (n := 2) (C := evd_256) (S := S_b186) (I := I_b186) (fuel := 4000) [] hen ei_256 (e2_fa (cs_b181 hen l hh) (e2_fa ((cs_b184 hen l).mono (by decide)) e2_fz)) (e2_fa ein_212 (e2_fa ein_220 e2_fz)) (by decide) co_b186 ex2_256 ck_b186
/-! b187 X10_will -/
def as_b187 : List ev_V := [(2, 83, 0), (11, 0, 4294967295), (11, 0, 4294967295)]
def E_b187 : e2_E := [(2147483648, 2147583648, 0, 0), (2147483648, 2147483656, 1, 0), (2147483648, 2147483688, 2, 0), (2147483648, 2147483688, 3, 0)]
def bn1701 : e2_Q6 := (bn1615, bn1663)
def bn1702 : e2_Q7 := (bn1537, bn1701)
def bn1703 : e2_Q8 := (bn1686, bn1702)
noncomputable def f_b187 : ev_H := (bn1703 : e2_Q8)
noncomputable def q_b187_0 : ev_H := (bn1703 : e2_Q8)
noncomputable def rs_b187 : e2_Rs := [((11, 0, 4294967295), q_b187_0)]
noncomputable def s_b187 : e2_Sm := (256, as_b187, E_b187, f_b187, rs_b187)
noncomputable def S_b187 : List e2_Sm := [s_b182, s_b184]
noncomputable def I_b187 : List e2_In := [(212, 3, e2x_212), (220, 2, e2x_220)]
set_option maxRecDepth 1000000 in
theorem ck_b187 : e2_run (e2_cal S_b187 I_b187 4000 2) (e2_fin rs_b187) e2x_256 (fun _ => false) (fun _ _ _ _ _ => false) 4000 (e2_seek e2x_256 0) (e2_al 4 as_b187) [] E_b187 f_b187 = true := by decide +kernel
set_option maxRecDepth 1000000 in
theorem co_b187 : e2_okSB E_b187.length as_b187 f_b187 rs_b187 = true := by decide +kernel
theorem cs_b187 (hen : en_ok) (l : Launch) (hh : e2_hand_b l) : e2_smOk l 66 s_b187 := e2_con0 (H := 63) (n := 2) (C := evd_256) (S := S_b187) (I := I_b187) (fuel := 4000) [] hen ei_256 (e2_fa (cs_b182 hen l hh) (e2_fa ((cs_b184 hen l).mono (by decide)) e2_fz)) (e2_fa ein_212 (e2_fa ein_220 e2_fz)) (by decide) co_b187 ex2_256 ck_b187
/-! b188 X10_will -/
def as_b188 : List ev_V := [(2, 83, 0), (11, 0, 4294967295), (11, 0, 4294967295)]
def E_b188 : e2_E := [(2147483648, 2147583648, 0, 0), (2147483648, 2147483656, 1, 0), (2147483648, 2147483688, 2, 0), (2147483648, 2147483688, 3, 0)]
def bn1704 : e2_Q8 := (bn1691, bn1669)
noncomputable def f_b188 : ev_H := (bn1704 : e2_Q8)
noncomputable def q_b188_0 : ev_H := (bn1704 : e2_Q8)
noncomputable def rs_b188 : e2_Rs := [((11, 0, 4294967295), q_b188_0)]
noncomputable def s_b188 : e2_Sm := (256, as_b188, E_b188, f_b188, rs_b188)
noncomputable def S_b188 : List e2_Sm := [s_b183, s_b184]
noncomputable def I_b188 : List e2_In := [(212, 3, e2x_212), (220, 2, e2x_220)]
set_option maxRecDepth 1000000 in
theorem ck_b188 : e2_run (e2_cal S_b188 I_b188 4000 2) (e2_fin rs_b188) e2x_256 (fun _ => false) (fun _ _ _ _ _ => false) 4000 (e2_seek e2x_256 0) (e2_al 4 as_b188) [] E_b188 f_b188 = true := by decide +kernel
set_option maxRecDepth 1000000 in
theorem co_b188 : e2_okSB E_b188.length as_b188 f_b188 rs_b188 = true := by decide +kernel
theorem cs_b188 (hen : en_ok) (l : Launch) (hh : e2_hand_b l) : e2_smOk l 69 s_b188 := e2_con0 (H := 66) (n := 2) (C := evd_256) (S := S_b188) (I := I_b188) (fuel := 4000) [] hen ei_256 (e2_fa (cs_b183 hen l hh) (e2_fa ((cs_b184 hen l).mono (by decide)) e2_fz)) (e2_fa ein_212 (e2_fa ein_220 e2_fz)) (by decide) co_b188 ex2_256 ck_b188
/-! b189 X10_field -/
def as_b189 : List ev_V := [(2, 83, 0), (11, 0, 4294967295)]
def E_b189 : e2_E := [(2147483648, 2147583648, 0, 0), (2147483648, 2147483656, 1, 0), (2147483648, 2147483688, 2, 0), (2147483648, 2147483688, 3, 0)]
noncomputable def f_b189 : ev_H := (bn1677 : e2_Q8)
noncomputable def q_b189_0 : ev_H := (bn1677 : e2_Q8)
noncomputable def rs_b189 : e2_Rs := [((11, 0, 4294967295), q_b189_0)]
noncomputable def s_b189 : e2_Sm := (257, as_b189, E_b189, f_b189, rs_b189)
noncomputable def S_b189 : List e2_Sm := [s_b11, s_b180, s_b184]
noncomputable def I_b189 : List e2_In := [(212, 3, e2x_212)]
set_option maxRecDepth 1000000 in
theorem ck_b189 : e2_run (e2_cal S_b189 I_b189 4000 1) (e2_fin rs_b189) e2x_257 (fun _ => false) (fun _ _ _ _ _ => false) 4000 (e2_seek e2x_257 0) (e2_al 3 as_b189) [] E_b189 f_b189 = true := by decide +kernel
set_option maxRecDepth 1000000 in
theorem co_b189 : e2_okSB E_b189.length as_b189 f_b189 rs_b189 = true := by decide +kernel
theorem cs_b189 (hen : en_ok) (l : Launch) : e2_smOk l 11 s_b189 := e2_con0 (H := 9) (n := 1) (C := evd_257) (S := S_b189) (I := I_b189) (fuel := 4000) [] hen ei_257 (e2_fa ((cs_b11 hen l).mono (by decide)) (e2_fa (cs_b180 hen l) (e2_fa ((cs_b184 hen l).mono (by decide)) e2_fz))) (e2_fa ein_212 e2_fz) (by decide) co_b189 ex2_257 ck_b189
/-! b190 X10_field -/
def as_b190 : List ev_V := [(2, 83, 0), (11, 0, 4294967295)]
def E_b190 : e2_E := [(2147483648, 2147583648, 0, 0), (2147483648, 2147483656, 1, 0), (2147483648, 2147483688, 2, 0), (2147483648, 2147483688, 3, 0)]
noncomputable def f_b190 : ev_H := (bn1682 : e2_Q8)
noncomputable def q_b190_0 : ev_H := (bn1682 : e2_Q8)
noncomputable def rs_b190 : e2_Rs := [((11, 0, 4294967295), q_b190_0)]
noncomputable def s_b190 : e2_Sm := (257, as_b190, E_b190, f_b190, rs_b190)
noncomputable def S_b190 : List e2_Sm := [s_b11, s_b181, s_b184]
noncomputable def I_b190 : List e2_In := [(212, 3, e2x_212)]
set_option maxRecDepth 1000000 in
theorem ck_b190 : e2_run (e2_cal S_b190 I_b190 4000 1) (e2_fin rs_b190) e2x_257 (fun _ => false) (fun _ _ _ _ _ => false) 4000 (e2_seek e2x_257 0) (e2_al 3 as_b190) [] E_b190 f_b190 = true := by decide +kernel
set_option maxRecDepth 1000000 in
theorem co_b190 : e2_okSB E_b190.length as_b190 f_b190 rs_b190 = true := by decide +kernel
theorem cs_b190 (hen : en_ok) (l : Launch) (hh : e2_hand_b l) : e2_smOk l 68 s_b190 := e2_con0 (H := 66) (n := 1) (C := evd_257) (S := S_b190) (I := I_b190) (fuel := 4000) [] hen ei_257 (e2_fa ((cs_b11 hen l).mono (by decide)) (e2_fa (cs_b181 hen l hh) (e2_fa ((cs_b184 hen l).mono (by decide)) e2_fz))) (e2_fa ein_212 e2_fz) (by decide) co_b190 ex2_257 ck_b190
/-! b191 X10_field -/
def as_b191 : List ev_V := [(2, 83, 0), (11, 0, 4294967295)]
def E_b191 : e2_E := [(2147483648, 2147583648, 0, 0), (2147483648, 2147483656, 1, 0), (2147483648, 2147483688, 2, 0), (2147483648, 2147483688, 3, 0)]
noncomputable def f_b191 : ev_H := (bn1687 : e2_Q8)
noncomputable def q_b191_0 : ev_H := (bn1687 : e2_Q8)
noncomputable def rs_b191 : e2_Rs := [((11, 0, 4294967295), q_b191_0)]
noncomputable def s_b191 : e2_Sm := (257, as_b191, E_b191, f_b191, rs_b191)
noncomputable def S_b191 : List e2_Sm := [s_b11, s_b182, s_b184]
noncomputable def I_b191 : List e2_In := [(212, 3, e2x_212)]
set_option maxRecDepth 1000000 in
theorem ck_b191 : e2_run (e2_cal S_b191 I_b191 4000 1) (e2_fin rs_b191) e2x_257 (fun _ => false) (fun _ _ _ _ _ => false) 4000 (e2_seek e2x_257 0) (e2_al 3 as_b191) [] E_b191 f_b191 = true := by decide +kernel
set_option maxRecDepth 1000000 in
theorem co_b191 : e2_okSB E_b191.length as_b191 f_b191 rs_b191 = true := by decide +kernel
theorem cs_b191 (hen : en_ok) (l : Launch) (hh : e2_hand_b l) : e2_smOk l 65 s_b191 := e2_con0 (H := 63) (n := 1) (C := evd_257) (S := S_b191) (I := I_b191) (fuel := 4000) [] hen ei_257 (e2_fa ((cs_b11 hen l).mono (by decide)) (e2_fa (cs_b182 hen l hh) (e2_fa ((cs_b184 hen l).mono (by decide)) e2_fz))) (e2_fa ein_212 e2_fz) (by decide) co_b191 ex2_257 ck_b191
/-! b192 X10_field -/
def as_b192 : List ev_V := [(2, 83, 0), (11, 0, 4294967295)]
def E_b192 : e2_E := [(2147483648, 2147583648, 0, 0), (2147483648, 2147483656, 1, 0), (2147483648, 2147483688, 2, 0), (2147483648, 2147483688, 3, 0)]
noncomputable def f_b192 : ev_H := (bn1692 : e2_Q8)
noncomputable def q_b192_0 : ev_H := (bn1692 : e2_Q8)
noncomputable def rs_b192 : e2_Rs := [((11, 0, 4294967295), q_b192_0)]
noncomputable def s_b192 : e2_Sm := (257, as_b192, E_b192, f_b192, rs_b192)
noncomputable def S_b192 : List e2_Sm := [s_b11, s_b183, s_b184]
noncomputable def I_b192 : List e2_In := [(212, 3, e2x_212)]
set_option maxRecDepth 1000000 in
theorem ck_b192 : e2_run (e2_cal S_b192 I_b192 4000 1) (e2_fin rs_b192) e2x_257 (fun _ => false) (fun _ _ _ _ _ => false) 4000 (e2_seek e2x_257 0) (e2_al 3 as_b192) [] E_b192 f_b192 = true := by decide +kernel
set_option maxRecDepth 1000000 in
theorem co_b192 : e2_okSB E_b192.length as_b192 f_b192 rs_b192 = true := by decide +kernel
theorem cs_b192 (hen : en_ok) (l : Launch) (hh : e2_hand_b l) : e2_smOk l 68 s_b192 := e2_con0 (H := 66) (n := 1) (C := evd_257) (S := S_b192) (I := I_b192) (fuel := 4000) [] hen ei_257 (e2_fa ((cs_b11 hen l).mono (by decide)) (e2_fa (cs_b183 hen l hh) (e2_fa ((cs_b184 hen l).mono (by decide)) e2_fz))) (e2_fa ein_212 e2_fz) (by decide) co_b192 ex2_257 ck_b192
/-! b193 X10_harm -/
def as_b193 : List ev_V := [(2, 83, 0)]
def E_b193 : e2_E := [(2147483648, 2147583648, 0, 0), (2147483648, 2147483656, 1, 0), (2147483648, 2147483688, 2, 0), (2147483648, 2147483688, 3, 0)]
noncomputable def f_b193 : ev_H := (bn1582 : e2_Q8)
noncomputable def q_b193_0 : ev_H := (bn1582 : e2_Q8)
noncomputable def rs_b193 : e2_Rs := [((11, 2147483648, 2147483649), q_b193_0)]
noncomputable def s_b193 : e2_Sm := (258, as_b193, E_b193, f_b193, rs_b193)
noncomputable def S_b193 : List e2_Sm := [s_b124, s_b133]
noncomputable def I_b193 : List e2_In := []
set_option maxRecDepth 1000000 in
theorem ck_b193 : e2_run (e2_cal S_b193 I_b193 4000 0) (e2_fin rs_b193) e2x_258 (fun _ => false) (fun _ _ _ _ _ => false) 4000 (e2_seek e2x_258 0) (e2_al 1 as_b193) [] E_b193 f_b193 = true := by decide +kernel
set_option maxRecDepth 1000000 in
theorem co_b193 : e2_okSB E_b193.length as_b193 f_b193 rs_b193 = true := by decide +kernel
theorem cs_b193 (hen : en_ok) (l : Launch) : e2_smOk l 7 s_b193 := e2_con0 (H := 6) (n := 0) (C := evd_258) (S := S_b193) (I := I_b193) (fuel := 4000) [] hen ei_258 (e2_fa (cs_b124 hen l) (e2_fa ((cs_b133 hen l).mono (by decide)) e2_fz)) e2_fz (by decide) co_b193 ex2_258 ck_b193
/-! b194 X10_harm -/
def as_b194 : List ev_V := [(2, 83, 0)]
def E_b194 : e2_E := [(2147483648, 2147583648, 0, 0), (2147483648, 2147483656, 1, 0), (2147483648, 2147483688, 2, 0), (2147483648, 2147483688, 3, 0)]
noncomputable def f_b194 : ev_H := (bn1586 : e2_Q8)
noncomputable def q_b194_0 : ev_H := (bn1586 : e2_Q8)
noncomputable def rs_b194 : e2_Rs := [((11, 2147483648, 2147483649), q_b194_0)]
noncomputable def s_b194 : e2_Sm := (258, as_b194, E_b194, f_b194, rs_b194)
noncomputable def S_b194 : List e2_Sm := [s_b126, s_b133]
noncomputable def I_b194 : List e2_In := []
set_option maxRecDepth 1000000 in
theorem ck_b194 : e2_run (e2_cal S_b194 I_b194 4000 0) (e2_fin rs_b194) e2x_258 (fun _ => false) (fun _ _ _ _ _ => false) 4000 (e2_seek e2x_258 0) (e2_al 1 as_b194) [] E_b194 f_b194 = true := by decide +kernel
set_option maxRecDepth 1000000 in
theorem co_b194 : e2_okSB E_b194.length as_b194 f_b194 rs_b194 = true := by decide +kernel
theorem cs_b194 (hen : en_ok) (l : Launch) (hh : e2_hand_b l) : e2_smOk l 64 s_b194 := e2_con0 (H := 63) (n := 0) (C := evd_258) (S := S_b194) (I := I_b194) (fuel := 4000) [] hen ei_258 (e2_fa (cs_b126 hen l hh) (e2_fa ((cs_b133 hen l).mono (by decide)) e2_fz)) e2_fz (by decide) co_b194 ex2_258 ck_b194
/-! b195 X10_harm -/
def as_b195 : List ev_V := [(2, 83, 0)]
def E_b195 : e2_E := [(2147483648, 2147583648, 0, 0), (2147483648, 2147483656, 1, 0), (2147483648, 2147483688, 2, 0), (2147483648, 2147483688, 3, 0)]
noncomputable def f_b195 : ev_H := (bn1587 : e2_Q8)
noncomputable def q_b195_0 : ev_H := (bn1587 : e2_Q8)
noncomputable def rs_b195 : e2_Rs := [((11, 2147483648, 2147483649), q_b195_0)]
noncomputable def s_b195 : e2_Sm := (258, as_b195, E_b195, f_b195, rs_b195)
noncomputable def S_b195 : List e2_Sm := [s_b128, s_b133]
noncomputable def I_b195 : List e2_In := []
set_option maxRecDepth 1000000 in
theorem ck_b195 : e2_run (e2_cal S_b195 I_b195 4000 0) (e2_fin rs_b195) e2x_258 (fun _ => false) (fun _ _ _ _ _ => false) 4000 (e2_seek e2x_258 0) (e2_al 1 as_b195) [] E_b195 f_b195 = true := by decide +kernel
set_option maxRecDepth 1000000 in
theorem co_b195 : e2_okSB E_b195.length as_b195 f_b195 rs_b195 = true := by decide +kernel
theorem cs_b195 (hen : en_ok) (l : Launch) : e2_smOk l 7 s_b195 := e2_con0 (H := 6) (n := 0) (C := evd_258) (S := S_b195) (I := I_b195) (fuel := 4000) [] hen ei_258 (e2_fa (cs_b128 hen l) (e2_fa ((cs_b133 hen l).mono (by decide)) e2_fz)) e2_fz (by decide) co_b195 ex2_258 ck_b195
/-! b196 X10_harm -/
def as_b196 : List ev_V := [(2, 83, 0)]
def E_b196 : e2_E := [(2147483648, 2147583648, 0, 0), (2147483648, 2147483656, 1, 0), (2147483648, 2147483688, 2, 0), (2147483648, 2147483688, 3, 0)]
noncomputable def f_b196 : ev_H := (bn1591 : e2_Q8)
noncomputable def q_b196_0 : ev_H := (bn1591 : e2_Q8)
noncomputable def rs_b196 : e2_Rs := [((11, 2147483648, 2147483649), q_b196_0)]
noncomputable def s_b196 : e2_Sm := (258, as_b196, E_b196, f_b196, rs_b196)
noncomputable def S_b196 : List e2_Sm := [s_b130, s_b133]
noncomputable def I_b196 : List e2_In := []
set_option maxRecDepth 1000000 in
theorem ck_b196 : e2_run (e2_cal S_b196 I_b196 4000 0) (e2_fin rs_b196) e2x_258 (fun _ => false) (fun _ _ _ _ _ => false) 4000 (e2_seek e2x_258 0) (e2_al 1 as_b196) [] E_b196 f_b196 = true := by decide +kernel
set_option maxRecDepth 1000000 in
theorem co_b196 : e2_okSB E_b196.length as_b196 f_b196 rs_b196 = true := by decide +kernel
theorem cs_b196 (hen : en_ok) (l : Launch) (hh : e2_hand_b l) : e2_smOk l 64 s_b196 := e2_con0 (H := 63) (n := 0) (C := evd_258) (S := S_b196) (I := I_b196) (fuel := 4000) [] hen ei_258 (e2_fa (cs_b130 hen l hh) (e2_fa ((cs_b133 hen l).mono (by decide)) e2_fz)) e2_fz (by decide) co_b196 ex2_258 ck_b196
/-! b197 X10_isWanted -/
def as_b197 : List ev_V := [(2, 83, 0), (11, 0, 4294967295), (11, 2147483648, 2147483649)]
def E_b197 : e2_E := [(2147483648, 2147583648, 0, 0), (2147483648, 2147483656, 1, 0), (2147483648, 2147483688, 2, 0), (2147483648, 2147483688, 3, 0)]
def bn1705 : e2_Q7 := (bn476, bn1520)
def bn1706 : e2_Q2 := (bn152, bn1639)
def bn1707 : e2_Q3 := (bn151, bn1706)
def bn1708 : e2_Q4 := (bn148, bn1707)
def bn1709 : e2_Q5 := (bn387, bn1708)
def bn1710 : e2_Q6 := (bn1709, bn487)
def bn1711 : e2_Q5 := (bn1578, bn219)
def bn1712 : e2_Q6 := (bn1711, bn251)
def bn1713 : e2_Q7 := (bn1710, bn1712)
def bn1714 : e2_Q8 := (bn1705, bn1713)
noncomputable def f_b197 : ev_H := (bn1714 : e2_Q8)
noncomputable def q_b197_0 : ev_H := (bn1714 : e2_Q8)
noncomputable def rs_b197 : e2_Rs := [((11, 2147483648, 2147483649), q_b197_0)]
noncomputable def s_b197 : e2_Sm := (259, as_b197, E_b197, f_b197, rs_b197)
noncomputable def S_b197 : List e2_Sm := [s_b93, s_b132]
noncomputable def I_b197 : List e2_In := [(227, 2, e2x_227), (232, 1, e2x_232)]
set_option maxRecDepth 1000000 in
theorem co_b197 : e2_okSB E_b197.length as_b197 f_b197 rs_b197 = true := by decide +kernel
def al_b197_0 : List ev_V := [(2, 83, 0), (11, 0, 4294967295), (0, 1, 0), (1, 4, 4294967296)]
def E_b197_0 : e2_E := [(2147483648, 2147583648, 0, 0), (2147483648, 2147483656, 1, 0), (2147483648, 2147483688, 2, 0), (2147483648, 2147483688, 3, 0), (2147483648, 2147483668, 4, 0)]
noncomputable def h_b197_0 : ev_H := (bn1714 : e2_Q8)
noncomputable def cl_b197_e : List (Nat × e2_S) := [(58, e2_cutL (al_b197_0.set 3 (11, 2147483648, 2147483668)) 4 (E_b197_0.take 4) h_b197_0)]
set_option maxRecDepth 1000000 in
theorem ck_b197_e : e2_run (e2_cal S_b197 I_b197 4000 2) (e2_fin rs_b197) e2x_259 (e2_bpL cl_b197_e) (e2_cutA cl_b197_e) 4000 (e2_seek e2x_259 0) (e2_al 4 as_b197) [] E_b197 f_b197 = true := by decide +kernel
noncomputable def cl_b197_0 : List (Nat × e2_S) := [(58, e2_cutL (al_b197_0.set 3 (13, 12, 2147483668)) 4 (E_b197_0.take 4) h_b197_0)]
set_option maxRecDepth 1000000 in
theorem ck_b197_0 : e2_runM (e2_cal S_b197 I_b197 4000 2) (e2_fin rs_b197) e2x_259 (e2_bpL cl_b197_0) (e2_cutA cl_b197_0) 4000 (e2_seek e2x_259 58) al_b197_0 [] E_b197_0 h_b197_0 = true := by decide +kernel
set_option maxRecDepth 1000000 in
theorem ci_b197_0 : e2_idl 4 (al_b197_0.set 3 (9, 0, 0)) = true := by decide +kernel
set_option maxRecDepth 1000000 in
theorem cj_b197_0 : e2_idh 4 8 h_b197_0 = true := by decide +kernel
theorem cs_b197 (hen : en_ok) (l : Launch) : e2_smOk l 8 s_b197 := by
  refine e2_conG (H := 5) (n := 2) (C := evd_259) (S := S_b197) (I := I_b197) (fuel := 4000) hen ei_259 (e2_fa (cs_b93 hen l) (e2_fa ((cs_b132 hen l).mono (by decide)) e2_fz)) (e2_fa ein_227 (e2_fa ein_232 e2_fz)) (by decide) co_b197 fun M d _ hC hcall p e R s m args below meth c Q D cA A ads r0 ha hl0 => ?_
  have L_0 : e2_gdM M p l e R s m args below meth c Q D cA A ads r0 58 al_b197_0 [] E_b197_0 h_b197_0 := by
    refine e2_indL (u := 4) (j := 3) (lo := 2147483648) (hi := 2147483668) (b := 4) (dd := 0) hl0 (by decide) rfl rfl (Or.inr ⟨rfl, rfl⟩) rfl ci_b197_0 cj_b197_0 ?_
    intro r_0 k_0 hk_0 hp_0 hs_0 hn_0
    have hl_0 : r_0.length ≤ 5 := hs_0.len rfl
    have ha_0 := ha.ext hp_0
    exact e2_fromM hen ha_0 hcall (e2_cutA_ok (e2_fa (fun al st E h hc => hn_0 al st E h hc) e2_fz)) (hC []) (X := e2x_259) ex2_259 58 ck_b197_0
  have EN_0 := e2_entL (u := 4) (j := 3) (lo := 2147483648) (hi := 2147483668) hl0 rfl rfl rfl ci_b197_0 cj_b197_0 L_0
  exact e2_from hen ha hcall (e2_cutA_ok (e2_fa (fun al st E h hc => EN_0 al st E h hc) e2_fz)) (hC []) (X := e2x_259) ex2_259 0 ck_b197_e
/-! b198 X10_change -/
def as_b198 : List ev_V := [(2, 83, 0), (11, 2147483648, 2147483649)]
def E_b198 : e2_E := [(2147483648, 2147583648, 0, 0), (2147483648, 2147483656, 1, 0), (2147483648, 2147483688, 2, 0), (2147483648, 2147483688, 3, 0)]
def bn1715 : e2_Q5 := (bn1515, bn433)
def bn1716 : e2_Q6 := (bn1715, bn475)
def bn1717 : e2_Q7 := (bn1716, bn1520)
def bn1718 : e2_Q6 := (bn1579, bn1643)
def bn1719 : e2_Q7 := (bn1710, bn1718)
def bn1720 : e2_Q8 := (bn1717, bn1719)
noncomputable def f_b198 : ev_H := (bn1720 : e2_Q8)
noncomputable def q_b198_0 : ev_H := (bn1720 : e2_Q8)
noncomputable def rs_b198 : e2_Rs := [((11, 2147483647, 2147483651), q_b198_0)]
noncomputable def s_b198 : e2_Sm := (260, as_b198, E_b198, f_b198, rs_b198)
noncomputable def S_b198 : List e2_Sm := [s_b13, s_b197]
noncomputable def I_b198 : List e2_In := [(216, 1, e2x_216)]
set_option maxRecDepth 1000000 in
theorem co_b198 : e2_okSB E_b198.length as_b198 f_b198 rs_b198 = true := by decide +kernel
def al_b198_0 : List ev_V := [(2, 83, 0), (11, 2147483648, 2147483649), (11, 0, 4294967295), (11, 0, 4294967295), (1, 4, 4294967296), (1, 5, 4294967296), (1, 6, 4294967296), (1, 7, 4294967296), (9, 0, 0)]
def E_b198_0 : e2_E := [(2147483648, 2147583648, 0, 0), (2147483648, 2147483656, 1, 0), (2147483648, 2147483688, 2, 0), (2147483648, 2147483688, 3, 0), (2147483649, 2147483651, 4, 0), (2147483648, 2147483667, 5, 0), (2147483648, 2147483667, 6, 0), (2147483648, 2147483668, 7, 0)]
noncomputable def h_b198_0 : ev_H := (bn1720 : e2_Q8)
def al_b198_1 : List ev_V := [(2, 83, 0), (11, 2147483648, 2147483649), (11, 0, 4294967295), (11, 0, 4294967295), (1, 4, 4294967296), (9, 0, 0), (9, 0, 0), (9, 0, 0), (9, 0, 0)]
def E_b198_1 : e2_E := [(2147483648, 2147583648, 0, 0), (2147483648, 2147483656, 1, 0), (2147483648, 2147483688, 2, 0), (2147483648, 2147483688, 3, 0), (2147483649, 2147483652, 4, 0)]
noncomputable def h_b198_1 : ev_H := (bn1720 : e2_Q8)
def al_b198_2 : List ev_V := [(2, 83, 0), (11, 2147483648, 2147483649), (11, 0, 4294967295), (11, 0, 4294967295), (1, 4, 4294967296), (1, 5, 4294967296), (9, 0, 0), (9, 0, 0), (9, 0, 0)]
def E_b198_2 : e2_E := [(2147483648, 2147583648, 0, 0), (2147483648, 2147483656, 1, 0), (2147483648, 2147483688, 2, 0), (2147483648, 2147483688, 3, 0), (2147483649, 2147483651, 4, 0), (2147483648, 2147483668, 5, 0)]
noncomputable def h_b198_2 : ev_H := (bn1720 : e2_Q8)
def al_b198_3 : List ev_V := [(2, 83, 0), (11, 2147483648, 2147483649), (11, 0, 4294967295), (11, 0, 4294967295), (1, 4, 4294967296), (1, 5, 4294967296), (1, 6, 4294967296), (9, 0, 0), (9, 0, 0)]
def E_b198_3 : e2_E := [(2147483648, 2147583648, 0, 0), (2147483648, 2147483656, 1, 0), (2147483648, 2147483688, 2, 0), (2147483648, 2147483688, 3, 0), (2147483649, 2147483651, 4, 0), (2147483648, 2147483667, 5, 0), (2147483648, 2147483668, 6, 0)]
noncomputable def h_b198_3 : ev_H := (bn1720 : e2_Q8)
noncomputable def cl_b198_e : List (Nat × e2_S) := [(40, e2_cutL (al_b198_1.set 4 (11, 2147483649, 2147483652)) 4 (E_b198_1.take 4) h_b198_1)]
set_option maxRecDepth 1000000 in
theorem ck_b198_e : e2_run (e2_cal S_b198 I_b198 4000 1) (e2_fin rs_b198) e2x_260 (e2_bpL cl_b198_e) (e2_cutA cl_b198_e) 4000 (e2_seek e2x_260 0) (e2_al 9 as_b198) [] E_b198 f_b198 = true := by decide +kernel
noncomputable def cl_b198_0 : List (Nat × e2_S) := [(109, e2_cutL (al_b198_0.set 7 (13, 15, 2147483668)) 7 (E_b198_0.take 7) h_b198_0),
  (74, e2_cutL (al_b198_3.set 6 (13, 14, 2147483668)) 6 (E_b198_3.take 6) h_b198_3)]
set_option maxRecDepth 1000000 in
theorem ck_b198_0 : e2_runM (e2_cal S_b198 I_b198 4000 1) (e2_fin rs_b198) e2x_260 (e2_bpL cl_b198_0) (e2_cutA cl_b198_0) 4000 (e2_seek e2x_260 109) al_b198_0 [] E_b198_0 h_b198_0 = true := by decide +kernel
set_option maxRecDepth 1000000 in
theorem ci_b198_0 : e2_idl 7 (al_b198_0.set 7 (9, 0, 0)) = true := by decide +kernel
set_option maxRecDepth 1000000 in
theorem cj_b198_0 : e2_idh 7 8 h_b198_0 = true := by decide +kernel
noncomputable def cl_b198_1 : List (Nat × e2_S) := [(49, e2_cutL (al_b198_2.set 5 (11, 2147483648, 2147483668)) 5 (E_b198_2.take 5) h_b198_2)]
set_option maxRecDepth 1000000 in
theorem ck_b198_1 : e2_runM (e2_cal S_b198 I_b198 4000 1) (e2_fin rs_b198) e2x_260 (e2_bpL cl_b198_1) (e2_cutA cl_b198_1) 4000 (e2_seek e2x_260 40) al_b198_1 [] E_b198_1 h_b198_1 = true := by decide +kernel
set_option maxRecDepth 1000000 in
theorem ci_b198_1 : e2_idl 4 (al_b198_1.set 4 (9, 0, 0)) = true := by decide +kernel
set_option maxRecDepth 1000000 in
theorem cj_b198_1 : e2_idh 4 8 h_b198_1 = true := by decide +kernel
noncomputable def cl_b198_2 : List (Nat × e2_S) := [(40, e2_cutL (al_b198_1.set 4 (13, 12, 2147483652)) 4 (E_b198_1.take 4) h_b198_1),
  (74, e2_cutL (al_b198_3.set 6 (11, 2147483648, 2147483668)) 6 (E_b198_3.take 6) h_b198_3)]
set_option maxRecDepth 1000000 in
theorem ck_b198_2 : e2_runM (e2_cal S_b198 I_b198 4000 1) (e2_fin rs_b198) e2x_260 (e2_bpL cl_b198_2) (e2_cutA cl_b198_2) 4000 (e2_seek e2x_260 49) al_b198_2 [] E_b198_2 h_b198_2 = true := by decide +kernel
set_option maxRecDepth 1000000 in
theorem ci_b198_2 : e2_idl 5 (al_b198_2.set 5 (9, 0, 0)) = true := by decide +kernel
set_option maxRecDepth 1000000 in
theorem cj_b198_2 : e2_idh 5 8 h_b198_2 = true := by decide +kernel
noncomputable def cl_b198_3 : List (Nat × e2_S) := [(109, e2_cutL (al_b198_0.set 7 (11, 2147483648, 2147483668)) 7 (E_b198_0.take 7) h_b198_0),
  (49, e2_cutL (al_b198_2.set 5 (13, 13, 2147483668)) 5 (E_b198_2.take 5) h_b198_2)]
set_option maxRecDepth 1000000 in
theorem ck_b198_3 : e2_runM (e2_cal S_b198 I_b198 4000 1) (e2_fin rs_b198) e2x_260 (e2_bpL cl_b198_3) (e2_cutA cl_b198_3) 4000 (e2_seek e2x_260 74) al_b198_3 [] E_b198_3 h_b198_3 = true := by decide +kernel
set_option maxRecDepth 1000000 in
theorem ci_b198_3 : e2_idl 6 (al_b198_3.set 6 (9, 0, 0)) = true := by decide +kernel
set_option maxRecDepth 1000000 in
theorem cj_b198_3 : e2_idh 6 8 h_b198_3 = true := by decide +kernel
theorem cs_b198 (hen : en_ok) (l : Launch) : e2_smOk l 10 s_b198 := by
  refine e2_conG (H := 8) (n := 1) (C := evd_260) (S := S_b198) (I := I_b198) (fuel := 4000) hen ei_260 (e2_fa ((cs_b13 hen l).mono (by decide)) (e2_fa (cs_b197 hen l) e2_fz)) (e2_fa ein_216 e2_fz) (by decide) co_b198 fun M d _ hC hcall p e R s m args below meth c Q D cA A ads r0 ha hl0 => ?_
  have L_1 : e2_gdM M p l e R s m args below meth c Q D cA A ads r0 40 al_b198_1 [] E_b198_1 h_b198_1 := by
    refine e2_indL (u := 4) (j := 4) (lo := 2147483649) (hi := 2147483652) (b := 4) (dd := 0) hl0 (by decide) rfl rfl (Or.inr ⟨rfl, rfl⟩) rfl ci_b198_1 cj_b198_1 ?_
    intro r_1 k_1 hk_1 hp_1 hs_1 hn_1
    have hl_1 : r_1.length ≤ 5 := hs_1.len rfl
    have ha_1 := ha.ext hp_1
    have L_2 : e2_gdM M p l e R s m args below meth c Q D cA A ads r_1 49 al_b198_2 [] E_b198_2 h_b198_2 := by
      refine e2_indL (u := 5) (j := 5) (lo := 2147483648) (hi := 2147483668) (b := 5) (dd := 0) hl_1 (by decide) rfl rfl (Or.inr ⟨rfl, rfl⟩) rfl ci_b198_2 cj_b198_2 ?_
      intro r_2 k_2 hk_2 hp_2 hs_2 hn_2
      have hl_2 : r_2.length ≤ 6 := hs_2.len rfl
      have ha_2 := ha_1.ext hp_2
      have L_3 : e2_gdM M p l e R s m args below meth c Q D cA A ads r_2 74 al_b198_3 [] E_b198_3 h_b198_3 := by
        refine e2_indL (u := 6) (j := 6) (lo := 2147483648) (hi := 2147483668) (b := 6) (dd := 0) hl_2 (by decide) rfl rfl (Or.inr ⟨rfl, rfl⟩) rfl ci_b198_3 cj_b198_3 ?_
        intro r_3 k_3 hk_3 hp_3 hs_3 hn_3
        have hl_3 : r_3.length ≤ 7 := hs_3.len rfl
        have ha_3 := ha_2.ext hp_3
        have L_0 : e2_gdM M p l e R s m args below meth c Q D cA A ads r_3 109 al_b198_0 [] E_b198_0 h_b198_0 := by
          refine e2_indL (u := 7) (j := 7) (lo := 2147483648) (hi := 2147483668) (b := 7) (dd := 0) hl_3 (by decide) rfl rfl (Or.inr ⟨rfl, rfl⟩) rfl ci_b198_0 cj_b198_0 ?_
          intro r_0 k_0 hk_0 hp_0 hs_0 hn_0
          have hl_0 : r_0.length ≤ 8 := hs_0.len rfl
          have ha_0 := ha_3.ext hp_0
          exact e2_fromM hen ha_0 hcall (e2_cutA_ok (e2_fa (fun al st E h hc => hn_0 al st E h hc) (e2_fa (fun al st E h hc => (hn_3 al st E h hc).ext hp_0) e2_fz))) (hC []) (X := e2x_260) ex2_260 109 ck_b198_0
        have EN_0 := e2_entL (u := 7) (j := 7) (lo := 2147483648) (hi := 2147483668) hl_3 rfl rfl rfl ci_b198_0 cj_b198_0 L_0
        exact e2_fromM hen ha_3 hcall (e2_cutA_ok (e2_fa (fun al st E h hc => EN_0 al st E h hc) (e2_fa (fun al st E h hc => (hn_2 al st E h hc).ext hp_3) e2_fz))) (hC []) (X := e2x_260) ex2_260 74 ck_b198_3
      have EN_3 := e2_entL (u := 6) (j := 6) (lo := 2147483648) (hi := 2147483668) hl_2 rfl rfl rfl ci_b198_3 cj_b198_3 L_3
      exact e2_fromM hen ha_2 hcall (e2_cutA_ok (e2_fa (fun al st E h hc => (hn_1 al st E h hc).ext hp_2) (e2_fa (fun al st E h hc => EN_3 al st E h hc) e2_fz))) (hC []) (X := e2x_260) ex2_260 49 ck_b198_2
    have EN_2 := e2_entL (u := 5) (j := 5) (lo := 2147483648) (hi := 2147483668) hl_1 rfl rfl rfl ci_b198_2 cj_b198_2 L_2
    exact e2_fromM hen ha_1 hcall (e2_cutA_ok (e2_fa (fun al st E h hc => EN_2 al st E h hc) e2_fz)) (hC []) (X := e2x_260) ex2_260 40 ck_b198_1
  have EN_1 := e2_entL (u := 4) (j := 4) (lo := 2147483649) (hi := 2147483652) hl0 rfl rfl rfl ci_b198_1 cj_b198_1 L_1
  exact e2_from hen ha hcall (e2_cutA_ok (e2_fa (fun al st E h hc => EN_1 al st E h hc) e2_fz)) (hC []) (X := e2x_260) ex2_260 0 ck_b198_e
