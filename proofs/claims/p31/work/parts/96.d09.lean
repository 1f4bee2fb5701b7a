/-! CONTRACTS d, printed by a program -/
/-! d199 X10_turn -/
def as_d199 : List ev_V := [(2, 83, 0), (11, 0, 4294967295), (11, 0, 4294967295)]
def E_d199 : e2_E := [(2147483648, 2147583648, 0, 0), (2147483648, 2147483656, 1, 0), (2147483648, 2147483688, 2, 0), (2147483648, 2147483688, 3, 0)]
def dn1721 : e2_Q3 := (dn1656, dn1640)
def dn1722 : e2_Q4 := (dn227, dn1721)
def dn1723 : e2_Q5 := (dn1722, dn250)
def dn1724 : e2_Q6 := (dn1579, dn1723)
def dn1725 : e2_Q7 := (dn1710, dn1724)
def dn1726 : e2_Q8 := (dn1521, dn1725)
noncomputable def f_d199 : ev_H := (dn1726 : e2_Q8)
noncomputable def q_d199_0 : ev_H := (dn1726 : e2_Q8)
noncomputable def rs_d199 : e2_Rs := [((11, 2147483647, 2147483651), q_d199_0)]
noncomputable def s_d199 : e2_Sm := (261, as_d199, E_d199, f_d199, rs_d199)
noncomputable def S_d199 : List e2_Sm := [s_d16, s_d198]
noncomputable def I_d199 : List e2_In := [(212, 3, e2x_212), (220, 2, e2x_220)]
set_option maxRecDepth 1000000 in
theorem ck_d199 : e2_run (e2_cal S_d199 I_d199 4000 2) (e2_fin rs_d199) e2x_261 (fun _ => false) (fun _ _ _ _ _ => false) 4000 (e2_seek e2x_261 0) (e2_al 3 as_d199) [] E_d199 f_d199 = true := by decide +kernel
set_option maxRecDepth 1000000 in
theorem co_d199 : e2_okSB E_d199.length as_d199 f_d199 rs_d199 = true := by decide +kernel
theorem cs_d199 (hen : en_ok) (l : Launch) : e2_smOk l 13 s_d199 := e2_con0 (H := 10) (n := 2) (C := evd_261) (S := S_d199) (I := I_d199) (fuel := 4000) [] hen ei_261 (e2_fa ((cs_d16 hen l).mono (by decide)) (e2_fa (cs_d198 hen l) e2_fz)) (e2_fa ein_212 (e2_fa ein_220 e2_fz)) (by decide) co_d199 ex2_261 ck_d199
/-! d200 X10_turn -/
def as_d200 : List ev_V := [(2, 83, 0), (11, 0, 4294967295), (11, 0, 4294967295)]
def E_d200 : e2_E := [(2147483648, 2147583648, 0, 0), (2147483648, 2147483656, 1, 0), (2147483648, 2147483688, 2, 0), (2147483648, 2147483688, 3, 0)]
def dn1727 : e2_Q6 := (dn1709, dn1536)
def dn1728 : e2_Q5 := (dn1722, dn311)
def dn1729 : e2_Q6 := (dn1583, dn1728)
def dn1730 : e2_Q7 := (dn1727, dn1729)
def dn1731 : e2_Q8 := (dn1534, dn1730)
noncomputable def f_d200 : ev_H := (dn1731 : e2_Q8)
noncomputable def q_d200_0 : ev_H := (dn1731 : e2_Q8)
noncomputable def rs_d200 : e2_Rs := [((11, 2147483647, 2147483651), q_d200_0)]
noncomputable def s_d200 : e2_Sm := (261, as_d200, E_d200, f_d200, rs_d200)
noncomputable def S_d200 : List e2_Sm := [s_d18, s_d198]
noncomputable def I_d200 : List e2_In := [(212, 3, e2x_212), (220, 2, e2x_220)]
set_option maxRecDepth 1000000 in
theorem ck_d200 : e2_run (e2_cal S_d200 I_d200 4000 2) (e2_fin rs_d200) e2x_261 (fun _ => false) (fun _ _ _ _ _ => false) 4000 (e2_seek e2x_261 0) (e2_al 3 as_d200) [] E_d200 f_d200 = true := by decide +kernel
set_option maxRecDepth 1000000 in
theorem co_d200 : e2_okSB E_d200.length as_d200 f_d200 rs_d200 = true := by decide +kernel
theorem cs_d200 (hen : en_ok) (l : Launch) (hh : e2_hand_d l) : e2_smOk l 65 s_d200 := e2_con0 (H := 62) (n := 2) (C := evd_261) (S := S_d200) (I := I_d200) (fuel := 4000) [] hen ei_261 (e2_fa (cs_d18 hen l hh) (e2_fa ((cs_d198 hen l).mono (by decide)) e2_fz)) (e2_fa ein_212 (e2_fa ein_220 e2_fz)) (by decide) co_d200 ex2_261 ck_d200
/-! d201 X10_turn -/
def as_d201 : List ev_V := [(2, 83, 0), (11, 0, 4294967295), (11, 0, 4294967295)]
def E_d201 : e2_E := [(2147483648, 2147583648, 0, 0), (2147483648, 2147483656, 1, 0), (2147483648, 2147483688, 2, 0), (2147483648, 2147483688, 3, 0)]
def dn1732 : e2_Q8 := (dn1549, dn1725)
noncomputable def f_d201 : ev_H := (dn1732 : e2_Q8)
noncomputable def q_d201_0 : ev_H := (dn1732 : e2_Q8)
noncomputable def rs_d201 : e2_Rs := [((11, 2147483647, 2147483651), q_d201_0)]
noncomputable def s_d201 : e2_Sm := (261, as_d201, E_d201, f_d201, rs_d201)
noncomputable def S_d201 : List e2_Sm := [s_d20, s_d198]
noncomputable def I_d201 : List e2_In := [(212, 3, e2x_212), (220, 2, e2x_220)]
set_option maxRecDepth 1000000 in
theorem ck_d201 : e2_run (e2_cal S_d201 I_d201 4000 2) (e2_fin rs_d201) e2x_261 (fun _ => false) (fun _ _ _ _ _ => false) 4000 (e2_seek e2x_261 0) (e2_al 3 as_d201) [] E_d201 f_d201 = true := by decide +kernel
set_option maxRecDepth 1000000 in
theorem co_d201 : e2_okSB E_d201.length as_d201 f_d201 rs_d201 = true := by decide +kernel
theorem cs_d201 (hen : en_ok) (l : Launch) : e2_smOk l 13 s_d201 := e2_con0 (H := 10) (n := 2) (C := evd_261) (S := S_d201) (I := I_d201) (fuel := 4000) [] hen ei_261 (e2_fa ((cs_d20 hen l).mono (by decide)) (e2_fa (cs_d198 hen l) e2_fz)) (e2_fa ein_212 (e2_fa ein_220 e2_fz)) (by decide) co_d201 ex2_261 ck_d201
/-! d202 X10_turn -/
def as_d202 : List ev_V := [(2, 83, 0), (11, 0, 4294967295), (11, 0, 4294967295)]
def E_d202 : e2_E := [(2147483648, 2147583648, 0, 0), (2147483648, 2147483656, 1, 0), (2147483648, 2147483688, 2, 0), (2147483648, 2147483688, 3, 0)]
def dn1733 : e2_Q6 := (dn1588, dn1728)
def dn1734 : e2_Q7 := (dn1727, dn1733)
def dn1735 : e2_Q8 := (dn1554, dn1734)
noncomputable def f_d202 : ev_H := (dn1735 : e2_Q8)
noncomputable def q_d202_0 : ev_H := (dn1735 : e2_Q8)
noncomputable def rs_d202 : e2_Rs := [((11, 2147483647, 2147483651), q_d202_0)]
noncomputable def s_d202 : e2_Sm := (261, as_d202, E_d202, f_d202, rs_d202)
noncomputable def S_d202 : List e2_Sm := [s_d22, s_d198]
noncomputable def I_d202 : List e2_In := [(212, 3, e2x_212), (220, 2, e2x_220)]
set_option maxRecDepth 1000000 in
theorem ck_d202 : e2_run (e2_cal S_d202 I_d202 4000 2) (e2_fin rs_d202) e2x_261 (fun _ => false) (fun _ _ _ _ _ => false) 4000 (e2_seek e2x_261 0) (e2_al 3 as_d202) [] E_d202 f_d202 = true := by decide +kernel
set_option maxRecDepth 1000000 in
theorem co_d202 : e2_okSB E_d202.length as_d202 f_d202 rs_d202 = true := by decide +kernel
theorem cs_d202 (hen : en_ok) (l : Launch) (hh : e2_hand_d l) : e2_smOk l 65 s_d202 := e2_con0 (H := 62) (n := 2) (C := evd_261) (S := S_d202) (I := I_d202) (fuel := 4000) [] hen ei_261 (e2_fa (cs_d22 hen l hh) (e2_fa ((cs_d198 hen l).mono (by decide)) e2_fz)) (e2_fa ein_212 (e2_fa ein_220 e2_fz)) (by decide) co_d202 ex2_261 ck_d202
/-! d203 X10_plain -/
def as_d203 : List ev_V := [(2, 83, 0)]
def E_d203 : e2_E := [(2147483648, 2147583648, 0, 0), (2147483648, 2147483656, 1, 0), (2147483648, 2147483688, 2, 0), (2147483648, 2147483688, 3, 0)]
def dn1736 : e2_Q8 := (dn1521, dn1719)
noncomputable def f_d203 : ev_H := (dn1736 : e2_Q8)
noncomputable def q_d203_0 : ev_H := (dn1736 : e2_Q8)
noncomputable def rs_d203 : e2_Rs := [((11, 2147483647, 2147483651), q_d203_0)]
noncomputable def s_d203 : e2_Sm := (262, as_d203, E_d203, f_d203, rs_d203)
noncomputable def S_d203 : List e2_Sm := [s_d124, s_d198]
noncomputable def I_d203 : List e2_In := []
set_option maxRecDepth 1000000 in
theorem co_d203 : e2_okSB E_d203.length as_d203 f_d203 rs_d203 = true := by decide +kernel
def al_d203_0 : List ev_V := [(2, 83, 0), (1, 4, 4294967296)]
def E_d203_0 : e2_E := [(2147483648, 2147583648, 0, 0), (2147483648, 2147483656, 1, 0), (2147483648, 2147483688, 2, 0), (2147483648, 2147483688, 3, 0), (2147483648, 2147483668, 4, 0)]
noncomputable def h_d203_0 : ev_H := (dn1736 : e2_Q8)
noncomputable def cl_d203_e : List (Nat × e2_S) := [(24, e2_cutL (al_d203_0.set 1 (11, 2147483648, 2147483668)) 4 (E_d203_0.take 4) h_d203_0)]
set_option maxRecDepth 1000000 in
theorem ck_d203_e : e2_run (e2_cal S_d203 I_d203 4000 0) (e2_fin rs_d203) e2x_262 (e2_bpL cl_d203_e) (e2_cutA cl_d203_e) 4000 (e2_seek e2x_262 0) (e2_al 2 as_d203) [] E_d203 f_d203 = true := by decide +kernel
noncomputable def cl_d203_0 : List (Nat × e2_S) := [(24, e2_cutL (al_d203_0.set 1 (13, 12, 2147483668)) 4 (E_d203_0.take 4) h_d203_0)]
set_option maxRecDepth 1000000 in
theorem ck_d203_0 : e2_runM (e2_cal S_d203 I_d203 4000 0) (e2_fin rs_d203) e2x_262 (e2_bpL cl_d203_0) (e2_cutA cl_d203_0) 4000 (e2_seek e2x_262 24) al_d203_0 [] E_d203_0 h_d203_0 = true := by decide +kernel
set_option maxRecDepth 1000000 in
theorem ci_d203_0 : e2_idl 4 (al_d203_0.set 1 (9, 0, 0)) = true := by decide +kernel
set_option maxRecDepth 1000000 in
theorem cj_d203_0 : e2_idh 4 8 h_d203_0 = true := by decide +kernel
theorem cs_d203 (hen : en_ok) (l : Launch) : e2_smOk l 11 s_d203 := by
  refine e2_conG (H := 10) (n := 0) (C := evd_262) (S := S_d203) (I := I_d203) (fuel := 4000) hen ei_262 (e2_fa ((cs_d124 hen l).mono (by decide)) (e2_fa (cs_d198 hen l) e2_fz)) e2_fz (by decide) co_d203 fun M d _ hC hcall p e R s m args below meth c Q D cA A ads r0 ha hl0 => ?_
  have L_0 : e2_gdM M p l e R s m args below meth c Q D cA A ads r0 24 al_d203_0 [] E_d203_0 h_d203_0 := by
    refine e2_indL (u := 4) (j := 1) (lo := 2147483648) (hi := 2147483668) (b := 4) (dd := 0) hl0 (by decide) rfl rfl (Or.inr ⟨rfl, rfl⟩) rfl ci_d203_0 cj_d203_0 ?_
    intro r_0 k_0 hk_0 hp_0 hs_0 hn_0
    have hl_0 : r_0.length ≤ 5 := hs_0.len rfl
    have ha_0 := ha.ext hp_0
    exact e2_fromM hen ha_0 hcall (e2_cutA_ok (e2_fa (fun al st E h hc => hn_0 al st E h hc) e2_fz)) (hC []) (X := e2x_262) ex2_262 24 ck_d203_0
  have EN_0 := e2_entL (u := 4) (j := 1) (lo := 2147483648) (hi := 2147483668) hl0 rfl rfl rfl ci_d203_0 cj_d203_0 L_0
  exact e2_from hen ha hcall (e2_cutA_ok (e2_fa (fun al st E h hc => EN_0 al st E h hc) e2_fz)) (hC []) (X := e2x_262) ex2_262 0 ck_d203_e
/-! d204 X10_plain -/
def as_d204 : List ev_V := [(2, 83, 0)]
def E_d204 : e2_E := [(2147483648, 2147583648, 0, 0), (2147483648, 2147483656, 1, 0), (2147483648, 2147483688, 2, 0), (2147483648, 2147483688, 3, 0)]
def dn1737 : e2_Q6 := (dn1583, dn1647)
def dn1738 : e2_Q7 := (dn1727, dn1737)
def dn1739 : e2_Q8 := (dn1534, dn1738)
noncomputable def f_d204 : ev_H := (dn1739 : e2_Q8)
noncomputable def q_d204_0 : ev_H := (dn1739 : e2_Q8)
noncomputable def rs_d204 : e2_Rs := [((11, 2147483647, 2147483651), q_d204_0)]
noncomputable def s_d204 : e2_Sm := (262, as_d204, E_d204, f_d204, rs_d204)
noncomputable def S_d204 : List e2_Sm := [s_d126, s_d198]
noncomputable def I_d204 : List e2_In := []
set_option maxRecDepth 1000000 in
theorem co_d204 : e2_okSB E_d204.length as_d204 f_d204 rs_d204 = true := by decide +kernel
def al_d204_0 : List ev_V := [(2, 83, 0), (1, 4, 4294967296)]
def E_d204_0 : e2_E := [(2147483648, 2147583648, 0, 0), (2147483648, 2147483656, 1, 0), (2147483648, 2147483688, 2, 0), (2147483648, 2147483688, 3, 0), (2147483648, 2147483668, 4, 0)]
noncomputable def h_d204_0 : ev_H := (dn1739 : e2_Q8)
noncomputable def cl_d204_e : List (Nat × e2_S) := [(24, e2_cutL (al_d204_0.set 1 (11, 2147483648, 2147483668)) 4 (E_d204_0.take 4) h_d204_0)]
set_option maxRecDepth 1000000 in
theorem ck_d204_e : e2_run (e2_cal S_d204 I_d204 4000 0) (e2_fin rs_d204) e2x_262 (e2_bpL cl_d204_e) (e2_cutA cl_d204_e) 4000 (e2_seek e2x_262 0) (e2_al 2 as_d204) [] E_d204 f_d204 = true := by decide +kernel
noncomputable def cl_d204_0 : List (Nat × e2_S) := [(24, e2_cutL (al_d204_0.set 1 (13, 12, 2147483668)) 4 (E_d204_0.take 4) h_d204_0)]
set_option maxRecDepth 1000000 in
theorem ck_d204_0 : e2_runM (e2_cal S_d204 I_d204 4000 0) (e2_fin rs_d204) e2x_262 (e2_bpL cl_d204_0) (e2_cutA cl_d204_0) 4000 (e2_seek e2x_262 24) al_d204_0 [] E_d204_0 h_d204_0 = true := by decide +kernel
set_option maxRecDepth 1000000 in
theorem ci_d204_0 : e2_idl 4 (al_d204_0.set 1 (9, 0, 0)) = true := by decide +kernel
set_option maxRecDepth 1000000 in
theorem cj_d204_0 : e2_idh 4 8 h_d204_0 = true := by decide +kernel
theorem cs_d204 (hen : en_ok) (l : Launch) (hh : e2_hand_d l) : e2_smOk l 64 s_d204 := by
  refine e2_conG (H := 63) (n := 0) (C := evd_262) (S := S_d204) (I := I_d204) (fuel := 4000) hen ei_262 (e2_fa (cs_d126 hen l hh) (e2_fa ((cs_d198 hen l).mono (by decide)) e2_fz)) e2_fz (by decide) co_d204 fun M d _ hC hcall p e R s m args below meth c Q D cA A ads r0 ha hl0 => ?_
  have L_0 : e2_gdM M p l e R s m args below meth c Q D cA A ads r0 24 al_d204_0 [] E_d204_0 h_d204_0 := by
    refine e2_indL (u := 4) (j := 1) (lo := 2147483648) (hi := 2147483668) (b := 4) (dd := 0) hl0 (by decide) rfl rfl (Or.inr ⟨rfl, rfl⟩) rfl ci_d204_0 cj_d204_0 ?_
    intro r_0 k_0 hk_0 hp_0 hs_0 hn_0
    have hl_0 : r_0.length ≤ 5 := hs_0.len rfl
    have ha_0 := ha.ext hp_0
    exact e2_fromM hen ha_0 hcall (e2_cutA_ok (e2_fa (fun al st E h hc => hn_0 al st E h hc) e2_fz)) (hC []) (X := e2x_262) ex2_262 24 ck_d204_0
  have EN_0 := e2_entL (u := 4) (j := 1) (lo := 2147483648) (hi := 2147483668) hl0 rfl rfl rfl ci_d204_0 cj_d204_0 L_0
  exact e2_from hen ha hcall (e2_cutA_ok (e2_fa (fun al st E h hc => EN_0 al st E h hc) e2_fz)) (hC []) (X := e2x_262) ex2_262 0 ck_d204_e
/-! d205 X10_plain -/
def as_d205 : List ev_V := [(2, 83, 0)]
def E_d205 : e2_E := [(2147483648, 2147583648, 0, 0), (2147483648, 2147483656, 1, 0), (2147483648, 2147483688, 2, 0), (2147483648, 2147483688, 3, 0)]
def dn1740 : e2_Q8 := (dn1549, dn1719)
noncomputable def f_d205 : ev_H := (dn1740 : e2_Q8)
noncomputable def q_d205_0 : ev_H := (dn1740 : e2_Q8)
noncomputable def rs_d205 : e2_Rs := [((11, 2147483647, 2147483651), q_d205_0)]
noncomputable def s_d205 : e2_Sm := (262, as_d205, E_d205, f_d205, rs_d205)
noncomputable def S_d205 : List e2_Sm := [s_d128, s_d198]
noncomputable def I_d205 : List e2_In := []
set_option maxRecDepth 1000000 in
theorem co_d205 : e2_okSB E_d205.length as_d205 f_d205 rs_d205 = true := by decide +kernel
def al_d205_0 : List ev_V := [(2, 83, 0), (1, 4, 4294967296)]
def E_d205_0 : e2_E := [(2147483648, 2147583648, 0, 0), (2147483648, 2147483656, 1, 0), (2147483648, 2147483688, 2, 0), (2147483648, 2147483688, 3, 0), (2147483648, 2147483668, 4, 0)]
noncomputable def h_d205_0 : ev_H := (dn1740 : e2_Q8)
noncomputable def cl_d205_e : List (Nat × e2_S) := [(24, e2_cutL (al_d205_0.set 1 (11, 2147483648, 2147483668)) 4 (E_d205_0.take 4) h_d205_0)]
set_option maxRecDepth 1000000 in
theorem ck_d205_e : e2_run (e2_cal S_d205 I_d205 4000 0) (e2_fin rs_d205) e2x_262 (e2_bpL cl_d205_e) (e2_cutA cl_d205_e) 4000 (e2_seek e2x_262 0) (e2_al 2 as_d205) [] E_d205 f_d205 = true := by decide +kernel
noncomputable def cl_d205_0 : List (Nat × e2_S) := [(24, e2_cutL (al_d205_0.set 1 (13, 12, 2147483668)) 4 (E_d205_0.take 4) h_d205_0)]
set_option maxRecDepth 1000000 in
theorem ck_d205_0 : e2_runM (e2_cal S_d205 I_d205 4000 0) (e2_fin rs_d205) e2x_262 (e2_bpL cl_d205_0) (e2_cutA cl_d205_0) 4000 (e2_seek e2x_262 24) al_d205_0 [] E_d205_0 h_d205_0 = true := by decide +kernel
set_option maxRecDepth 1000000 in
theorem ci_d205_0 : e2_idl 4 (al_d205_0.set 1 (9, 0, 0)) = true := by decide +kernel
set_option maxRecDepth 1000000 in
theorem cj_d205_0 : e2_idh 4 8 h_d205_0 = true := by decide +kernel
theorem cs_d205 (hen : en_ok) (l : Launch) : e2_smOk l 11 s_d205 := by
  refine e2_conG (H := 10) (n := 0) (C := evd_262) (S := S_d205) (I := I_d205) (fuel := 4000) hen ei_262 (e2_fa ((cs_d128 hen l).mono (by decide)) (e2_fa (cs_d198 hen l) e2_fz)) e2_fz (by decide) co_d205 fun M d _ hC hcall p e R s m args below meth c Q D cA A ads r0 ha hl0 => ?_
  have L_0 : e2_gdM M p l e R s m args below meth c Q D cA A ads r0 24 al_d205_0 [] E_d205_0 h_d205_0 := by
    refine e2_indL (u := 4) (j := 1) (lo := 2147483648) (hi := 2147483668) (b := 4) (dd := 0) hl0 (by decide) rfl rfl (Or.inr ⟨rfl, rfl⟩) rfl ci_d205_0 cj_d205_0 ?_
    intro r_0 k_0 hk_0 hp_0 hs_0 hn_0
    have hl_0 : r_0.length ≤ 5 := hs_0.len rfl
    have ha_0 := ha.ext hp_0
    exact e2_fromM hen ha_0 hcall (e2_cutA_ok (e2_fa (fun al st E h hc => hn_0 al st E h hc) e2_fz)) (hC []) (X := e2x_262) ex2_262 24 ck_d205_0
  have EN_0 := e2_entL (u := 4) (j := 1) (lo := 2147483648) (hi := 2147483668) hl0 rfl rfl rfl ci_d205_0 cj_d205_0 L_0
  exact e2_from hen ha hcall (e2_cutA_ok (e2_fa (fun al st E h hc => EN_0 al st E h hc) e2_fz)) (hC []) (X := e2x_262) ex2_262 0 ck_d205_e
/-! d206 X10_plain -/
def as_d206 : List ev_V := [(2, 83, 0)]
def E_d206 : e2_E := [(2147483648, 2147583648, 0, 0), (2147483648, 2147483656, 1, 0), (2147483648, 2147483688, 2, 0), (2147483648, 2147483688, 3, 0)]
def dn1741 : e2_Q6 := (dn1588, dn1647)
def dn1742 : e2_Q7 := (dn1727, dn1741)
def dn1743 : e2_Q8 := (dn1554, dn1742)
noncomputable def f_d206 : ev_H := (dn1743 : e2_Q8)
noncomputable def q_d206_0 : ev_H := (dn1743 : e2_Q8)
noncomputable def rs_d206 : e2_Rs := [((11, 2147483647, 2147483651), q_d206_0)]
noncomputable def s_d206 : e2_Sm := (262, as_d206, E_d206, f_d206, rs_d206)
noncomputable def S_d206 : List e2_Sm := [s_d130, s_d198]
noncomputable def I_d206 : List e2_In := []
set_option maxRecDepth 1000000 in
theorem co_d206 : e2_okSB E_d206.length as_d206 f_d206 rs_d206 = true := by decide +kernel
def al_d206_0 : List ev_V := [(2, 83, 0), (1, 4, 4294967296)]
def E_d206_0 : e2_E := [(2147483648, 2147583648, 0, 0), (2147483648, 2147483656, 1, 0), (2147483648, 2147483688, 2, 0), (2147483648, 2147483688, 3, 0), (2147483648, 2147483668, 4, 0)]
noncomputable def h_d206_0 : ev_H := (dn1743 : e2_Q8)
noncomputable def cl_d206_e : List (Nat × e2_S) := [(24, e2_cutL (al_d206_0.set 1 (11, 2147483648, 2147483668)) 4 (E_d206_0.take 4) h_d206_0)]
set_option maxRecDepth 1000000 in
theorem ck_d206_e : e2_run (e2_cal S_d206 I_d206 4000 0) (e2_fin rs_d206) e2x_262 (e2_bpL cl_d206_e) (e2_cutA cl_d206_e) 4000 (e2_seek e2x_262 0) (e2_al 2 as_d206) [] E_d206 f_d206 = true := by decide +kernel
noncomputable def cl_d206_0 : List (Nat × e2_S) := [(24, e2_cutL (al_d206_0.set 1 (13, 12, 2147483668)) 4 (E_d206_0.take 4) h_d206_0)]
set_option maxRecDepth 1000000 in
theorem ck_d206_0 : e2_runM (e2_cal S_d206 I_d206 4000 0) (e2_fin rs_d206) e2x_262 (e2_bpL cl_d206_0) (e2_cutA cl_d206_0) 4000 (e2_seek e2x_262 24) al_d206_0 [] E_d206_0 h_d206_0 = true := by decide +kernel
set_option maxRecDepth 1000000 in
theorem ci_d206_0 : e2_idl 4 (al_d206_0.set 1 (9, 0, 0)) = true := by decide +kernel
set_option maxRecDepth 1000000 in
theorem cj_d206_0 : e2_idh 4 8 h_d206_0 = true := by decide +kernel
theorem cs_d206 (hen : en_ok) (l : Launch) (hh : e2_hand_d l) : e2_smOk l 64 s_d206 := by
  refine e2_conG (H := 63) (n := 0) (C := evd_262) (S := S_d206) (I := I_d206) (fuel := 4000) hen ei_262 (e2_fa (cs_d130 hen l hh) (e2_fa ((cs_d198 hen l).mono (by decide)) e2_fz)) e2_fz (by decide) co_d206 fun M d _ hC hcall p e R s m args below meth c Q D cA A ads r0 ha hl0 => ?_
  have L_0 : e2_gdM M p l e R s m args below meth c Q D cA A ads r0 24 al_d206_0 [] E_d206_0 h_d206_0 := by
    refine e2_indL (u := 4) (j := 1) (lo := 2147483648) (hi := 2147483668) (b := 4) (dd := 0) hl0 (by decide) rfl rfl (Or.inr ⟨rfl, rfl⟩) rfl ci_d206_0 cj_d206_0 ?_
    intro r_0 k_0 hk_0 hp_0 hs_0 hn_0
    have hl_0 : r_0.length ≤ 5 := hs_0.len rfl
    have ha_0 := ha.ext hp_0
    exact e2_fromM hen ha_0 hcall (e2_cutA_ok (e2_fa (fun al st E h hc => hn_0 al st E h hc) e2_fz)) (hC []) (X := e2x_262) ex2_262 24 ck_d206_0
  have EN_0 := e2_entL (u := 4) (j := 1) (lo := 2147483648) (hi := 2147483668) hl0 rfl rfl rfl ci_d206_0 cj_d206_0 L_0
  exact e2_from hen ha hcall (e2_cutA_ok (e2_fa (fun al st E h hc => EN_0 al st E h hc) e2_fz)) (hC []) (X := e2x_262) ex2_262 0 ck_d206_e
/-! d207 X10_isWritten -/
def as_d207 : List ev_V := [(2, 83, 0), (0, 1, 0)]
def E_d207 : e2_E := [(2147483648, 2147583648, 0, 0), (2147483648, 2147483656, 1, 0), (2147483648, 2147483688, 2, 0), (2147483648, 2147483688, 3, 0)]
def dc214 : ev_C := (50, [(11, 2147483648, 2147483655), (0, 4294967295, 0), (0, 4294967295, 0)])
def dn1744 : e2_Q1 := (dc214, dc3)
def dn1745 : e2_Q2 := (dn56, dn1744)
def dn1746 : e2_Q3 := (dn55, dn1745)
def dn1747 : e2_Q4 := (dn52, dn1746)
def dn1748 : e2_Q5 := (dn474, dn1747)
def dn1749 : e2_Q6 := (dn434, dn1748)
def dn1750 : e2_Q7 := (dn1749, dn445)
def dc215 : ev_C := (54, [(0, 3, 0), (11, 0, 4294967295)])
def dn1751 : e2_Q1 := (dc215, dc3)
def dn1752 : e2_Q2 := (dn183, dn1751)
def dn1753 : e2_Q3 := (dn182, dn1752)
def dn1754 : e2_Q4 := (dn179, dn1753)
def dn1755 : e2_Q5 := (dn486, dn1754)
def dn1756 : e2_Q6 := (dn388, dn1755)
def dn1757 : e2_Q7 := (dn1756, dn1523)
def dn1758 : e2_Q8 := (dn1750, dn1757)
noncomputable def f_d207 : ev_H := (dn1758 : e2_Q8)
noncomputable def q_d207_0 : ev_H := (dn1758 : e2_Q8)
noncomputable def rs_d207 : e2_Rs := [((11, 2147483648, 2147483649), q_d207_0)]
noncomputable def s_d207 : e2_Sm := (266, as_d207, E_d207, f_d207, rs_d207)
noncomputable def S_d207 : List e2_Sm := [s_d93]
noncomputable def I_d207 : List e2_In := [(227, 2, e2x_227), (232, 1, e2x_232)]
set_option maxRecDepth 1000000 in
theorem ck_d207 : e2_run (e2_cal S_d207 I_d207 4000 2) (e2_fin rs_d207) e2x_266 (fun _ => false) (fun _ _ _ _ _ => false) 4000 (e2_seek e2x_266 0) (e2_al 4 as_d207) [] E_d207 f_d207 = true := by decide +kernel
set_option maxRecDepth 1000000 in
theorem co_d207 : e2_okSB E_d207.length as_d207 f_d207 rs_d207 = true := by decide +kernel
theorem cs_d207 (hen : en_ok) (l : Launch) : e2_smOk l 8 s_d207 := e2_con0 (H := 5) (n := 2) (C := evd_266) (S := S_d207) (I := I_d207) (fuel := 4000) [] hen ei_266 (e2_fa (cs_d93 hen l) e2_fz) (e2_fa ein_227 (e2_fa ein_232 e2_fz)) (by decide) co_d207 ex2_266 ck_d207
/-! d208 X10_isWritten -/
def as_d208 : List ev_V := [(2, 83, 0), (0, 2, 0)]
def E_d208 : e2_E := [(2147483648, 2147583648, 0, 0), (2147483648, 2147483656, 1, 0), (2147483648, 2147483688, 2, 0), (2147483648, 2147483688, 3, 0)]
def dc216 : ev_C := (50, [(11, 2147483648, 2147483655), (11, 2147483648, 2147483655), (0, 4294967295, 0)])
def dn1759 : e2_Q1 := (dc216, dc3)
def dn1760 : e2_Q2 := (dn56, dn1759)
def dn1761 : e2_Q3 := (dn55, dn1760)
def dn1762 : e2_Q4 := (dn52, dn1761)
def dn1763 : e2_Q5 := (dn474, dn1762)
def dn1764 : e2_Q6 := (dn434, dn1763)
def dn1765 : e2_Q7 := (dn1764, dn445)
def dn1766 : e2_Q8 := (dn1765, dn1757)
noncomputable def f_d208 : ev_H := (dn1766 : e2_Q8)
noncomputable def q_d208_0 : ev_H := (dn1766 : e2_Q8)
noncomputable def rs_d208 : e2_Rs := [((11, 2147483648, 2147483649), q_d208_0)]
noncomputable def s_d208 : e2_Sm := (266, as_d208, E_d208, f_d208, rs_d208)
noncomputable def S_d208 : List e2_Sm := [s_d93]
noncomputable def I_d208 : List e2_In := [(227, 2, e2x_227), (232, 1, e2x_232)]
set_option maxRecDepth 1000000 in
theorem ck_d208 : e2_run (e2_cal S_d208 I_d208 4000 2) (e2_fin rs_d208) e2x_266 (fun _ => false) (fun _ _ _ _ _ => false) 4000 (e2_seek e2x_266 0) (e2_al 4 as_d208) [] E_d208 f_d208 = true := by decide +kernel
set_option maxRecDepth 1000000 in
theorem co_d208 : e2_okSB E_d208.length as_d208 f_d208 rs_d208 = true := by decide +kernel
theorem cs_d208 (hen : en_ok) (l : Launch) : e2_smOk l 8 s_d208 := e2_con0 (H := 5) (n := 2) (C := evd_266) (S := S_d208) (I := I_d208) (fuel := 4000) [] hen ei_266 (e2_fa (cs_d93 hen l) e2_fz) (e2_fa ein_227 (e2_fa ein_232 e2_fz)) (by decide) co_d208 ex2_266 ck_d208
/-! d209 X10_isWritten -/
def as_d209 : List ev_V := [(2, 83, 0), (0, 3, 0)]
def E_d209 : e2_E := [(2147483648, 2147583648, 0, 0), (2147483648, 2147483656, 1, 0), (2147483648, 2147483688, 2, 0), (2147483648, 2147483688, 3, 0)]
def dc217 : ev_C := (50, [(11, 2147483648, 2147483655), (11, 2147483648, 2147483655), (11, 2147483648, 2147483655)])
def dn1767 : e2_Q1 := (dc217, dc3)
def dn1768 : e2_Q2 := (dn56, dn1767)
def dn1769 : e2_Q3 := (dn55, dn1768)
def dn1770 : e2_Q4 := (dn52, dn1769)
def dn1771 : e2_Q5 := (dn474, dn1770)
def dn1772 : e2_Q6 := (dn434, dn1771)
def dn1773 : e2_Q7 := (dn1772, dn445)
def dn1774 : e2_Q8 := (dn1773, dn1757)
noncomputable def f_d209 : ev_H := (dn1774 : e2_Q8)
noncomputable def q_d209_0 : ev_H := (dn1774 : e2_Q8)
noncomputable def rs_d209 : e2_Rs := [((11, 2147483648, 2147483649), q_d209_0)]
noncomputable def s_d209 : e2_Sm := (266, as_d209, E_d209, f_d209, rs_d209)
noncomputable def S_d209 : List e2_Sm := [s_d93]
noncomputable def I_d209 : List e2_In := [(227, 2, e2x_227), (232, 1, e2x_232)]
set_option maxRecDepth 1000000 in
theorem ck_d209 : e2_run (e2_cal S_d209 I_d209 4000 2) (e2_fin rs_d209) e2x_266 (fun _ => false) (fun _ _ _ _ _ => false) 4000 (e2_seek e2x_266 0) (e2_al 4 as_d209) [] E_d209 f_d209 = true := by decide +kernel
set_option maxRecDepth 1000000 in
theorem co_d209 : e2_okSB E_d209.length as_d209 f_d209 rs_d209 = true := by decide +kernel
theorem cs_d209 (hen : en_ok) (l : Launch) : e2_smOk l 8 s_d209 := e2_con0 (H := 5) (n := 2) (C := evd_266) (S := S_d209) (I := I_d209) (fuel := 4000) [] hen ei_266 (e2_fa (cs_d93 hen l) e2_fz) (e2_fa ein_227 (e2_fa ein_232 e2_fz)) (by decide) co_d209 ex2_266 ck_d209
/-! d210 X10_isPlaced -/
def as_d210 : List ev_V := [(2, 83, 0), (11, 2147483648, 2147483667), (0, 1, 0)]
def E_d210 : e2_E := [(2147483648, 2147583648, 0, 0), (2147483648, 2147483656, 1, 0), (2147483648, 2147483688, 2, 0), (2147483648, 2147483688, 3, 0)]
def dn1775 : e2_Q5 := (dn45, dn1747)
def dn1776 : e2_Q6 := (dn267, dn1775)
def dn1777 : e2_Q7 := (dn1776, dn349)
def dn1778 : e2_Q4 := (dn383, dn140)
def dn1779 : e2_Q5 := (dn1778, dn156)
def dn1780 : e2_Q5 := (dn172, dn1754)
def dn1781 : e2_Q6 := (dn1779, dn1780)
def dn1782 : e2_Q7 := (dn1781, dn252)
def dn1783 : e2_Q8 := (dn1777, dn1782)
noncomputable def f_d210 : ev_H := (dn1783 : e2_Q8)
noncomputable def q_d210_0 : ev_H := (dn1783 : e2_Q8)
noncomputable def rs_d210 : e2_Rs := [((11, 2147483648, 2147483649), q_d210_0)]
noncomputable def s_d210 : e2_Sm := (268, as_d210, E_d210, f_d210, rs_d210)
noncomputable def S_d210 : List e2_Sm := []
noncomputable def I_d210 : List e2_In := [(216, 1, e2x_216), (267, 2, e2x_267)]
set_option maxRecDepth 1000000 in
theorem ck_d210 : e2_run (e2_cal S_d210 I_d210 4000 1) (e2_fin rs_d210) e2x_268 (fun _ => false) (fun _ _ _ _ _ => false) 4000 (e2_seek e2x_268 0) (e2_al 5 as_d210) [] E_d210 f_d210 = true := by decide +kernel
set_option maxRecDepth 1000000 in
theorem co_d210 : e2_okSB E_d210.length as_d210 f_d210 rs_d210 = true := by decide +kernel
theorem cs_d210 (hen : en_ok) (l : Launch) : e2_smOk l 2 s_d210 := e2_con0 (H := 0) (n := 1) (C := evd_268) (S := S_d210) (I := I_d210) (fuel := 4000) [] hen ei_268 e2_fz (e2_fa ein_216 (e2_fa ein_267 e2_fz)) (by decide) co_d210 ex2_268 ck_d210
/-! d211 X10_isPlaced -/
def as_d211 : List ev_V := [(2, 83, 0), (11, 2147483648, 2147484160), (0, 2, 0)]
def E_d211 : e2_E := [(2147483648, 2147583648, 0, 0), (2147483648, 2147483656, 1, 0), (2147483648, 2147483688, 2, 0), (2147483648, 2147483688, 3, 0)]
def dn1784 : e2_Q5 := (dn45, dn1762)
def dn1785 : e2_Q6 := (dn267, dn1784)
def dn1786 : e2_Q7 := (dn1785, dn349)
def dn1787 : e2_Q8 := (dn1786, dn1782)
noncomputable def f_d211 : ev_H := (dn1787 : e2_Q8)
noncomputable def q_d211_0 : ev_H := (dn1787 : e2_Q8)
noncomputable def rs_d211 : e2_Rs := [((11, 2147483648, 2147483649), q_d211_0)]
noncomputable def s_d211 : e2_Sm := (268, as_d211, E_d211, f_d211, rs_d211)
noncomputable def S_d211 : List e2_Sm := []
noncomputable def I_d211 : List e2_In := [(216, 1, e2x_216), (267, 2, e2x_267)]
set_option maxRecDepth 1000000 in
theorem ck_d211 : e2_run (e2_cal S_d211 I_d211 4000 1) (e2_fin rs_d211) e2x_268 (fun _ => false) (fun _ _ _ _ _ => false) 4000 (e2_seek e2x_268 0) (e2_al 5 as_d211) [] E_d211 f_d211 = true := by decide +kernel
set_option maxRecDepth 1000000 in
theorem co_d211 : e2_okSB E_d211.length as_d211 f_d211 rs_d211 = true := by decide +kernel
theorem cs_d211 (hen : en_ok) (l : Launch) : e2_smOk l 2 s_d211 := e2_con0 (H := 0) (n := 1) (C := evd_268) (S := S_d211) (I := I_d211) (fuel := 4000) [] hen ei_268 e2_fz (e2_fa ein_216 (e2_fa ein_267 e2_fz)) (by decide) co_d211 ex2_268 ck_d211
/-! d212 X10_isPlaced -/
def as_d212 : List ev_V := [(2, 83, 0), (11, 2147483648, 2147493647), (0, 3, 0)]
def E_d212 : e2_E := [(2147483648, 2147583648, 0, 0), (2147483648, 2147483656, 1, 0), (2147483648, 2147483688, 2, 0), (2147483648, 2147483688, 3, 0)]
def dn1788 : e2_Q5 := (dn45, dn1770)
def dn1789 : e2_Q6 := (dn267, dn1788)
def dn1790 : e2_Q7 := (dn1789, dn349)
def dn1791 : e2_Q8 := (dn1790, dn1782)
noncomputable def f_d212 : ev_H := (dn1791 : e2_Q8)
noncomputable def q_d212_0 : ev_H := (dn1791 : e2_Q8)
noncomputable def rs_d212 : e2_Rs := [((11, 2147483648, 2147483649), q_d212_0)]
noncomputable def s_d212 : e2_Sm := (268, as_d212, E_d212, f_d212, rs_d212)
noncomputable def S_d212 : List e2_Sm := []
noncomputable def I_d212 : List e2_In := [(216, 1, e2x_216), (267, 2, e2x_267)]
set_option maxRecDepth 1000000 in
theorem ck_d212 : e2_run (e2_cal S_d212 I_d212 4000 1) (e2_fin rs_d212) e2x_268 (fun _ => false) (fun _ _ _ _ _ => false) 4000 (e2_seek e2x_268 0) (e2_al 5 as_d212) [] E_d212 f_d212 = true := by decide +kernel
set_option maxRecDepth 1000000 in
theorem co_d212 : e2_okSB E_d212.length as_d212 f_d212 rs_d212 = true := by decide +kernel
theorem cs_d212 (hen : en_ok) (l : Launch) : e2_smOk l 2 s_d212 := e2_con0 (H := 0) (n := 1) (C := evd_268) (S := S_d212) (I := I_d212) (fuel := 4000) [] hen ei_268 e2_fz (e2_fa ein_216 (e2_fa ein_267 e2_fz)) (by decide) co_d212 ex2_268 ck_d212
/-! d213 X10_write -/
def as_d213 : List ev_V := [(2, 83, 0), (11, 0, 4294967295), (11, 0, 4294967295), (11, 0, 4294967295)]
def E_d213 : e2_E := [(2147483648, 2147583648, 0, 0), (2147483648, 2147483656, 1, 0), (2147483648, 2147483688, 2, 0), (2147483648, 2147483688, 3, 0)]
def dc218 : ev_C := (50, [(11, 2147483647, 2147483655), (11, 2147483647, 2147483655), (11, 2147483647, 2147483655)])
def dn1792 : e2_Q1 := (dc218, dc3)
def dn1793 : e2_Q2 := (dn56, dn1792)
def dn1794 : e2_Q3 := (dn55, dn1793)
def dn1795 : e2_Q4 := (dn52, dn1794)
def dn1796 : e2_Q5 := (dn474, dn1795)
def dn1797 : e2_Q6 := (dn1516, dn1796)
def dn1798 : e2_Q7 := (dn1797, dn1520)
def dn1799 : e2_Q7 := (dn1756, dn1644)
def dn1800 : e2_Q8 := (dn1798, dn1799)
noncomputable def f_d213 : ev_H := (dn1800 : e2_Q8)
noncomputable def q_d213_0 : ev_H := (dn1800 : e2_Q8)
noncomputable def rs_d213 : e2_Rs := [((11, 0, 4294967295), q_d213_0)]
noncomputable def s_d213 : e2_Sm := (269, as_d213, E_d213, f_d213, rs_d213)
noncomputable def S_d213 : List e2_Sm := [s_d2, s_d16, s_d207, s_d208, s_d209, s_d210, s_d211, s_d212]
noncomputable def I_d213 : List e2_In := [(212, 3, e2x_212), (216, 1, e2x_216), (217, 1, e2x_217), (219, 2, e2x_219)]
set_option maxRecDepth 1000000 in
theorem co_d213 : e2_okSB E_d213.length as_d213 f_d213 rs_d213 = true := by decide +kernel
def al_d213_0 : List ev_V := [(2, 83, 0), (11, 2147483648, 2147483655), (0, 4294967295, 0), (0, 4294967295, 0), (0, 1, 0), (11, 2147483652, 2147483668), (11, 0, 4294967295), (1, 4, 4294967296), (9, 0, 0)]
def E_d213_0 : e2_E := [(2147483648, 2147583648, 0, 0), (2147483649, 2147483656, 1, 0), (2147483648, 2147483688, 2, 0), (2147483648, 2147483688, 3, 0), (2147483648, 2147483668, 4, 0)]
def dn1801 : e2_Q6 := (dn1516, dn1748)
def dn1802 : e2_Q7 := (dn1801, dn1520)
def dn1803 : e2_Q8 := (dn1802, dn1799)
noncomputable def h_d213_0 : ev_H := (dn1803 : e2_Q8)
def al_d213_1 : List ev_V := [(2, 83, 0), (11, 2147483648, 2147483655), (11, 2147483648, 2147483655), (0, 4294967295, 0), (0, 2, 0), (11, 2147483664, 2147484048), (11, 0, 4294967295), (1, 4, 4294967296), (9, 0, 0)]
def E_d213_1 : e2_E := [(2147483648, 2147583648, 0, 0), (2147483649, 2147483656, 1, 0), (2147483648, 2147483688, 2, 0), (2147483648, 2147483688, 3, 0), (2147483648, 2147484048, 4, 0)]
def dn1804 : e2_Q6 := (dn1516, dn1763)
def dn1805 : e2_Q7 := (dn1804, dn1520)
def dn1806 : e2_Q8 := (dn1805, dn1799)
noncomputable def h_d213_1 : ev_H := (dn1806 : e2_Q8)
def al_d213_2 : List ev_V := [(2, 83, 0), (11, 2147483648, 2147483655), (11, 2147483648, 2147483655), (11, 2147483648, 2147483655), (0, 3, 0), (11, 2147483712, 2147491648), (11, 0, 4294967295), (1, 4, 4294967296), (9, 0, 0)]
def E_d213_2 : e2_E := [(2147483648, 2147583648, 0, 0), (2147483649, 2147483656, 1, 0), (2147483648, 2147483688, 2, 0), (2147483648, 2147483688, 3, 0), (2147483648, 2147491648, 4, 0)]
def dn1807 : e2_Q6 := (dn1516, dn1771)
def dn1808 : e2_Q7 := (dn1807, dn1520)
def dn1809 : e2_Q8 := (dn1808, dn1799)
noncomputable def h_d213_2 : ev_H := (dn1809 : e2_Q8)
noncomputable def cl_d213_e : List (Nat × e2_S) := [(154, e2_cutL (al_d213_0.set 7 (11, 2147483648, 2147483668)) 4 (E_d213_0.take 4) h_d213_0),
  (154, e2_cutL (al_d213_1.set 7 (11, 2147483648, 2147484048)) 4 (E_d213_1.take 4) h_d213_1),
  (154, e2_cutL (al_d213_2.set 7 (11, 2147483648, 2147491648)) 4 (E_d213_2.take 4) h_d213_2)]
set_option maxRecDepth 1000000 in
theorem ck_d213_e : e2_run (e2_cal S_d213 I_d213 4000 2) (e2_fin rs_d213) e2x_269 (e2_bpL cl_d213_e) (e2_cutA cl_d213_e) 4000 (e2_seek e2x_269 0) (e2_al 9 as_d213) [] E_d213 f_d213 = true := by decide +kernel
noncomputable def cl_d213_0 : List (Nat × e2_S) := [(154, e2_cutL (al_d213_0.set 7 (13, 12, 2147483668)) 4 (E_d213_0.take 4) h_d213_0)]
set_option maxRecDepth 1000000 in
theorem ck_d213_0 : e2_runM (e2_cal S_d213 I_d213 4000 2) (e2_fin rs_d213) e2x_269 (e2_bpL cl_d213_0) (e2_cutA cl_d213_0) 4000 (e2_seek e2x_269 154) al_d213_0 [] E_d213_0 h_d213_0 = true := by decide +kernel
set_option maxRecDepth 1000000 in
theorem ci_d213_0 : e2_idl 4 (al_d213_0.set 7 (9, 0, 0)) = true := by decide +kernel
set_option maxRecDepth 1000000 in
theorem cj_d213_0 : e2_idh 4 8 h_d213_0 = true := by decide +kernel
noncomputable def cl_d213_1 : List (Nat × e2_S) := [(154, e2_cutL (al_d213_1.set 7 (13, 12, 2147484048)) 4 (E_d213_1.take 4) h_d213_1)]
set_option maxRecDepth 1000000 in
theorem ck_d213_1 : e2_runM (e2_cal S_d213 I_d213 4000 2) (e2_fin rs_d213) e2x_269 (e2_bpL cl_d213_1) (e2_cutA cl_d213_1) 4000 (e2_seek e2x_269 154) al_d213_1 [] E_d213_1 h_d213_1 = true := by decide +kernel
set_option maxRecDepth 1000000 in
theorem ci_d213_1 : e2_idl 4 (al_d213_1.set 7 (9, 0, 0)) = true := by decide +kernel
set_option maxRecDepth 1000000 in
theorem cj_d213_1 : e2_idh 4 8 h_d213_1 = true := by decide +kernel
noncomputable def cl_d213_2 : List (Nat × e2_S) := [(154, e2_cutL (al_d213_2.set 7 (13, 12, 2147491648)) 4 (E_d213_2.take 4) h_d213_2)]
set_option maxRecDepth 1000000 in
theorem ck_d213_2 : e2_runM (e2_cal S_d213 I_d213 4000 2) (e2_fin rs_d213) e2x_269 (e2_bpL cl_d213_2) (e2_cutA cl_d213_2) 4000 (e2_seek e2x_269 154) al_d213_2 [] E_d213_2 h_d213_2 = true := by decide +kernel
set_option maxRecDepth 1000000 in
theorem ci_d213_2 : e2_idl 4 (al_d213_2.set 7 (9, 0, 0)) = true := by decide +kernel
set_option maxRecDepth 1000000 in
theorem cj_d213_2 : e2_idh 4 8 h_d213_2 = true := by decide +kernel
theorem cs_d213 (hen : en_ok) (l : Launch) (hh : e2_hand_d l) : e2_smOk l 63 s_d213 := by
  refine e2_conG (H := 60) (n := 2) (C := evd_269) (S := S_d213) (I := I_d213) (fuel := 4000) hen ei_269 (e2_fa (hh _ hm_d2) (e2_fa ((cs_d16 hen l).mono (by decide)) (e2_fa ((cs_d207 hen l).mono (by decide)) (e2_fa ((cs_d208 hen l).mono (by decide)) (e2_fa ((cs_d209 hen l).mono (by decide)) (e2_fa ((cs_d210 hen l).mono (by decide)) (e2_fa ((cs_d211 hen l).mono (by decide)) (e2_fa ((cs_d212 hen l).mono (by decide)) e2_fz)))))))) (e2_fa ein_212 (e2_fa ein_216 (e2_fa ein_217 (e2_fa ein_219 e2_fz)))) (by decide) co_d213 fun M d _ hC hcall p e R s m args below meth c Q D cA A ads r0 ha hl0 => ?_
  have L_0 : e2_gdM M p l e R s m args below meth c Q D cA A ads r0 154 al_d213_0 [] E_d213_0 h_d213_0 := by
    refine e2_indL (u := 4) (j := 7) (lo := 2147483648) (hi := 2147483668) (b := 4) (dd := 0) hl0 (by decide) rfl rfl (Or.inr ⟨rfl, rfl⟩) rfl ci_d213_0 cj_d213_0 ?_
    intro r_0 k_0 hk_0 hp_0 hs_0 hn_0
    have hl_0 : r_0.length ≤ 5 := hs_0.len rfl
    have ha_0 := ha.ext hp_0
    exact e2_fromM hen ha_0 hcall (e2_cutA_ok (e2_fa (fun al st E h hc => hn_0 al st E h hc) e2_fz)) (hC []) (X := e2x_269) ex2_269 154 ck_d213_0
  have EN_0 := e2_entL (u := 4) (j := 7) (lo := 2147483648) (hi := 2147483668) hl0 rfl rfl rfl ci_d213_0 cj_d213_0 L_0
  have L_1 : e2_gdM M p l e R s m args below meth c Q D cA A ads r0 154 al_d213_1 [] E_d213_1 h_d213_1 := by
    refine e2_indL (u := 4) (j := 7) (lo := 2147483648) (hi := 2147484048) (b := 4) (dd := 0) hl0 (by decide) rfl rfl (Or.inr ⟨rfl, rfl⟩) rfl ci_d213_1 cj_d213_1 ?_
    intro r_1 k_1 hk_1 hp_1 hs_1 hn_1
    have hl_1 : r_1.length ≤ 5 := hs_1.len rfl
    have ha_1 := ha.ext hp_1
    exact e2_fromM hen ha_1 hcall (e2_cutA_ok (e2_fa (fun al st E h hc => hn_1 al st E h hc) e2_fz)) (hC []) (X := e2x_269) ex2_269 154 ck_d213_1
  have EN_1 := e2_entL (u := 4) (j := 7) (lo := 2147483648) (hi := 2147484048) hl0 rfl rfl rfl ci_d213_1 cj_d213_1 L_1
  have L_2 : e2_gdM M p l e R s m args below meth c Q D cA A ads r0 154 al_d213_2 [] E_d213_2 h_d213_2 := by
    refine e2_indL (u := 4) (j := 7) (lo := 2147483648) (hi := 2147491648) (b := 4) (dd := 0) hl0 (by decide) rfl rfl (Or.inr ⟨rfl, rfl⟩) rfl ci_d213_2 cj_d213_2 ?_
    intro r_2 k_2 hk_2 hp_2 hs_2 hn_2
    have hl_2 : r_2.length ≤ 5 := hs_2.len rfl
    have ha_2 := ha.ext hp_2
    exact e2_fromM hen ha_2 hcall (e2_cutA_ok (e2_fa (fun al st E h hc => hn_2 al st E h hc) e2_fz)) (hC []) (X := e2x_269) ex2_269 154 ck_d213_2
  have EN_2 := e2_entL (u := 4) (j := 7) (lo := 2147483648) (hi := 2147491648) hl0 rfl rfl rfl ci_d213_2 cj_d213_2 L_2
  exact e2_from hen ha hcall (e2_cutA_ok (e2_fa (fun al st E h hc => EN_0 al st E h hc) (e2_fa (fun al st E h hc => EN_1 al st E h hc) (e2_fa (fun al st E h hc => EN_2 al st E h hc) e2_fz)))) (hC []) (X := e2x_269) ex2_269 0 ck_d213_e
/-! d214 X10_write -/
def as_d214 : List ev_V := [(2, 83, 0), (11, 0, 4294967295), (11, 0, 4294967295), (11, 0, 4294967295)]
def E_d214 : e2_E := [(2147483648, 2147583648, 0, 0), (2147483648, 2147483656, 1, 0), (2147483648, 2147483688, 2, 0), (2147483648, 2147483688, 3, 0)]
def dn1810 : e2_Q4 := (dn286, dn1794)
def dn1811 : e2_Q5 := (dn474, dn1810)
def dn1812 : e2_Q6 := (dn1530, dn1811)
def dn1813 : e2_Q7 := (dn1812, dn1533)
def dn1814 : e2_Q5 := (dn1535, dn1754)
def dn1815 : e2_Q6 := (dn388, dn1814)
def dn1816 : e2_Q7 := (dn1815, dn1648)
def dn1817 : e2_Q8 := (dn1813, dn1816)
noncomputable def f_d214 : ev_H := (dn1817 : e2_Q8)
noncomputable def q_d214_0 : ev_H := (dn1817 : e2_Q8)
noncomputable def rs_d214 : e2_Rs := [((11, 0, 4294967295), q_d214_0)]
noncomputable def s_d214 : e2_Sm := (269, as_d214, E_d214, f_d214, rs_d214)
noncomputable def S_d214 : List e2_Sm := [s_d2, s_d18, s_d207, s_d208, s_d209, s_d210, s_d211, s_d212]
noncomputable def I_d214 : List e2_In := [(212, 3, e2x_212), (216, 1, e2x_216), (217, 1, e2x_217), (219, 2, e2x_219)]
set_option maxRecDepth 1000000 in
theorem co_d214 : e2_okSB E_d214.length as_d214 f_d214 rs_d214 = true := by decide +kernel
def al_d214_0 : List ev_V := [(2, 83, 0), (11, 2147483648, 2147483655), (0, 4294967295, 0), (0, 4294967295, 0), (0, 1, 0), (11, 2147483652, 2147483668), (11, 0, 4294967295), (1, 4, 4294967296), (9, 0, 0)]
def E_d214_0 : e2_E := [(2147483648, 2147583648, 0, 0), (2147483649, 2147483656, 1, 0), (2147483648, 2147483688, 2, 0), (2147483648, 2147483688, 3, 0), (2147483648, 2147483668, 4, 0)]
def dn1818 : e2_Q4 := (dn286, dn1746)
def dn1819 : e2_Q5 := (dn474, dn1818)
def dn1820 : e2_Q6 := (dn1530, dn1819)
def dn1821 : e2_Q7 := (dn1820, dn1533)
def dn1822 : e2_Q8 := (dn1821, dn1816)
noncomputable def h_d214_0 : ev_H := (dn1822 : e2_Q8)
def al_d214_1 : List ev_V := [(2, 83, 0), (11, 2147483648, 2147483655), (11, 2147483648, 2147483655), (0, 4294967295, 0), (0, 2, 0), (11, 2147483664, 2147484048), (11, 0, 4294967295), (1, 4, 4294967296), (9, 0, 0)]
def E_d214_1 : e2_E := [(2147483648, 2147583648, 0, 0), (2147483649, 2147483656, 1, 0), (2147483648, 2147483688, 2, 0), (2147483648, 2147483688, 3, 0), (2147483648, 2147484048, 4, 0)]
def dn1823 : e2_Q4 := (dn286, dn1761)
def dn1824 : e2_Q5 := (dn474, dn1823)
def dn1825 : e2_Q6 := (dn1530, dn1824)
def dn1826 : e2_Q7 := (dn1825, dn1533)
def dn1827 : e2_Q8 := (dn1826, dn1816)
noncomputable def h_d214_1 : ev_H := (dn1827 : e2_Q8)
def al_d214_2 : List ev_V := [(2, 83, 0), (11, 2147483648, 2147483655), (11, 2147483648, 2147483655), (11, 2147483648, 2147483655), (0, 3, 0), (11, 2147483712, 2147491648), (11, 0, 4294967295), (1, 4, 4294967296), (9, 0, 0)]
def E_d214_2 : e2_E := [(2147483648, 2147583648, 0, 0), (2147483649, 2147483656, 1, 0), (2147483648, 2147483688, 2, 0), (2147483648, 2147483688, 3, 0), (2147483648, 2147491648, 4, 0)]
def dn1828 : e2_Q4 := (dn286, dn1769)
def dn1829 : e2_Q5 := (dn474, dn1828)
def dn1830 : e2_Q6 := (dn1530, dn1829)
def dn1831 : e2_Q7 := (dn1830, dn1533)
def dn1832 : e2_Q8 := (dn1831, dn1816)
noncomputable def h_d214_2 : ev_H := (dn1832 : e2_Q8)
noncomputable def cl_d214_e : List (Nat × e2_S) := [(154, e2_cutL (al_d214_0.set 7 (11, 2147483648, 2147483668)) 4 (E_d214_0.take 4) h_d214_0),
  (154, e2_cutL (al_d214_1.set 7 (11, 2147483648, 2147484048)) 4 (E_d214_1.take 4) h_d214_1),
  (154, e2_cutL (al_d214_2.set 7 (11, 2147483648, 2147491648)) 4 (E_d214_2.take 4) h_d214_2)]
set_option maxRecDepth 1000000 in
theorem ck_d214_e : e2_run (e2_cal S_d214 I_d214 4000 2) (e2_fin rs_d214) e2x_269 (e2_bpL cl_d214_e) (e2_cutA cl_d214_e) 4000 (e2_seek e2x_269 0) (e2_al 9 as_d214) [] E_d214 f_d214 = true := by decide +kernel
noncomputable def cl_d214_0 : List (Nat × e2_S) := [(154, e2_cutL (al_d214_0.set 7 (13, 12, 2147483668)) 4 (E_d214_0.take 4) h_d214_0)]
set_option maxRecDepth 1000000 in
theorem ck_d214_0 : e2_runM (e2_cal S_d214 I_d214 4000 2) (e2_fin rs_d214) e2x_269 (e2_bpL cl_d214_0) (e2_cutA cl_d214_0) 4000 (e2_seek e2x_269 154) al_d214_0 [] E_d214_0 h_d214_0 = true := by decide +kernel
set_option maxRecDepth 1000000 in
theorem ci_d214_0 : e2_idl 4 (al_d214_0.set 7 (9, 0, 0)) = true := by decide +kernel
set_option maxRecDepth 1000000 in
theorem cj_d214_0 : e2_idh 4 8 h_d214_0 = true := by decide +kernel
noncomputable def cl_d214_1 : List (Nat × e2_S) := [(154, e2_cutL (al_d214_1.set 7 (13, 12, 2147484048)) 4 (E_d214_1.take 4) h_d214_1)]
set_option maxRecDepth 1000000 in
theorem ck_d214_1 : e2_runM (e2_cal S_d214 I_d214 4000 2) (e2_fin rs_d214) e2x_269 (e2_bpL cl_d214_1) (e2_cutA cl_d214_1) 4000 (e2_seek e2x_269 154) al_d214_1 [] E_d214_1 h_d214_1 = true := by decide +kernel
set_option maxRecDepth 1000000 in
theorem ci_d214_1 : e2_idl 4 (al_d214_1.set 7 (9, 0, 0)) = true := by decide +kernel
set_option maxRecDepth 1000000 in
theorem cj_d214_1 : e2_idh 4 8 h_d214_1 = true := by decide +kernel
noncomputable def cl_d214_2 : List (Nat × e2_S) := [(154, e2_cutL (al_d214_2.set 7 (13, 12, 2147491648)) 4 (E_d214_2.take 4) h_d214_2)]
set_option maxRecDepth 1000000 in
theorem ck_d214_2 : e2_runM (e2_cal S_d214 I_d214 4000 2) (e2_fin rs_d214) e2x_269 (e2_bpL cl_d214_2) (e2_cutA cl_d214_2) 4000 (e2_seek e2x_269 154) al_d214_2 [] E_d214_2 h_d214_2 = true := by decide +kernel
set_option maxRecDepth 1000000 in
theorem ci_d214_2 : e2_idl 4 (al_d214_2.set 7 (9, 0, 0)) = true := by decide +kernel
set_option maxRecDepth 1000000 in
theorem cj_d214_2 : e2_idh 4 8 h_d214_2 = true := by decide +kernel
theorem cs_d214 (hen : en_ok) (l : Launch) (hh : e2_hand_d l) : e2_smOk l 65 s_d214 := by
  refine e2_conG (H := 62) (n := 2) (C := evd_269) (S := S_d214) (I := I_d214) (fuel := 4000) hen ei_269 (e2_fa ((hh _ hm_d2).mono (by decide)) (e2_fa (cs_d18 hen l hh) (e2_fa ((cs_d207 hen l).mono (by decide)) (e2_fa ((cs_d208 hen l).mono (by decide)) (e2_fa ((cs_d209 hen l).mono (by decide)) (e2_fa ((cs_d210 hen l).mono (by decide)) (e2_fa ((cs_d211 hen l).mono (by decide)) (e2_fa ((cs_d212 hen l).mono (by decide)) e2_fz)))))))) (e2_fa ein_212 (e2_fa ein_216 (e2_fa ein_217 (e2_fa ein_219 e2_fz)))) (by decide) co_d214 fun M d _ hC hcall p e R s m args below meth c Q D cA A ads r0 ha hl0 => ?_
  have L_0 : e2_gdM M p l e R s m args below meth c Q D cA A ads r0 154 al_d214_0 [] E_d214_0 h_d214_0 := by
    refine e2_indL (u := 4) (j := 7) (lo := 2147483648) (hi := 2147483668) (b := 4) (dd := 0) hl0 (by decide) rfl rfl (Or.inr ⟨rfl, rfl⟩) rfl ci_d214_0 cj_d214_0 ?_
    intro r_0 k_0 hk_0 hp_0 hs_0 hn_0
    have hl_0 : r_0.length ≤ 5 := hs_0.len rfl
    have ha_0 := ha.ext hp_0
    exact e2_fromM hen ha_0 hcall (e2_cutA_ok (e2_fa (fun al st E h hc => hn_0 al st E h hc) e2_fz)) (hC []) (X := e2x_269) ex2_269 154 ck_d214_0
  have EN_0 := e2_entL (u := 4) (j := 7) (lo := 2147483648) (hi := 2147483668) hl0 rfl rfl rfl ci_d214_0 cj_d214_0 L_0
  have L_1 : e2_gdM M p l e R s m args below meth c Q D cA A ads r0 154 al_d214_1 [] E_d214_1 h_d214_1 := by
    refine e2_indL (u := 4) (j := 7) (lo := 2147483648) (hi := 2147484048) (b := 4) (dd := 0) hl0 (by decide) rfl rfl (Or.inr ⟨rfl, rfl⟩) rfl ci_d214_1 cj_d214_1 ?_
    intro r_1 k_1 hk_1 hp_1 hs_1 hn_1
    have hl_1 : r_1.length ≤ 5 := hs_1.len rfl
    have ha_1 := ha.ext hp_1
    exact e2_fromM hen ha_1 hcall (e2_cutA_ok (e2_fa (fun al st E h hc => hn_1 al st E h hc) e2_fz)) (hC []) (X := e2x_269) ex2_269 154 ck_d214_1
  have EN_1 := e2_entL (u := 4) (j := 7) (lo := 2147483648) (hi := 2147484048) hl0 rfl rfl rfl ci_d214_1 cj_d214_1 L_1
  have L_2 : e2_gdM M p l e R s m args below meth c Q D cA A ads r0 154 al_d214_2 [] E_d214_2 h_d214_2 := by
    refine e2_indL (u := 4) (j := 7) (lo := 2147483648) (hi := 2147491648) (b := 4) (dd := 0) hl0 (by decide) rfl rfl (Or.inr ⟨rfl, rfl⟩) rfl ci_d214_2 cj_d214_2 ?_
    intro r_2 k_2 hk_2 hp_2 hs_2 hn_2
    have hl_2 : r_2.length ≤ 5 := hs_2.len rfl
    have ha_2 := ha.ext hp_2
    exact e2_fromM hen ha_2 hcall (e2_cutA_ok (e2_fa (fun al st E h hc => hn_2 al st E h hc) e2_fz)) (hC []) (X := e2x_269) ex2_269 154 ck_d214_2
  have EN_2 := e2_entL (u := 4) (j := 7) (lo := 2147483648) (hi := 2147491648) hl0 rfl rfl rfl ci_d214_2 cj_d214_2 L_2
  exact e2_from hen ha hcall (e2_cutA_ok (e2_fa (fun al st E h hc => EN_0 al st E h hc) (e2_fa (fun al st E h hc => EN_1 al st E h hc) (e2_fa (fun al st E h hc => EN_2 al st E h hc) e2_fz)))) (hC []) (X := e2x_269) ex2_269 0 ck_d214_e
/-! d215 X10_write -/
def as_d215 : List ev_V := [(2, 83, 0), (11, 0, 4294967295), (11, 0, 4294967295), (11, 0, 4294967295)]
def E_d215 : e2_E := [(2147483648, 2147583648, 0, 0), (2147483648, 2147483656, 1, 0), (2147483648, 2147483688, 2, 0), (2147483648, 2147483688, 3, 0)]
def dn1833 : e2_Q6 := (dn1547, dn1796)
def dn1834 : e2_Q7 := (dn1833, dn1520)
def dn1835 : e2_Q8 := (dn1834, dn1799)
noncomputable def f_d215 : ev_H := (dn1835 : e2_Q8)
noncomputable def q_d215_0 : ev_H := (dn1835 : e2_Q8)
noncomputable def rs_d215 : e2_Rs := [((11, 0, 4294967295), q_d215_0)]
noncomputable def s_d215 : e2_Sm := (269, as_d215, E_d215, f_d215, rs_d215)
noncomputable def S_d215 : List e2_Sm := [s_d2, s_d20, s_d207, s_d208, s_d209, s_d210, s_d211, s_d212]
noncomputable def I_d215 : List e2_In := [(212, 3, e2x_212), (216, 1, e2x_216), (217, 1, e2x_217), (219, 2, e2x_219)]
set_option maxRecDepth 1000000 in
theorem co_d215 : e2_okSB E_d215.length as_d215 f_d215 rs_d215 = true := by decide +kernel
def al_d215_0 : List ev_V := [(2, 83, 0), (11, 2147483648, 2147483655), (0, 4294967295, 0), (0, 4294967295, 0), (0, 1, 0), (11, 2147483652, 2147483668), (11, 0, 4294967295), (1, 4, 4294967296), (9, 0, 0)]
def E_d215_0 : e2_E := [(2147483648, 2147583648, 0, 0), (2147483649, 2147483656, 1, 0), (2147483648, 2147483688, 2, 0), (2147483648, 2147483688, 3, 0), (2147483648, 2147483668, 4, 0)]
def dn1836 : e2_Q6 := (dn1547, dn1748)
def dn1837 : e2_Q7 := (dn1836, dn1520)
def dn1838 : e2_Q8 := (dn1837, dn1799)
noncomputable def h_d215_0 : ev_H := (dn1838 : e2_Q8)
def al_d215_1 : List ev_V := [(2, 83, 0), (11, 2147483648, 2147483655), (11, 2147483648, 2147483655), (0, 4294967295, 0), (0, 2, 0), (11, 2147483664, 2147484048), (11, 0, 4294967295), (1, 4, 4294967296), (9, 0, 0)]
def E_d215_1 : e2_E := [(2147483648, 2147583648, 0, 0), (2147483649, 2147483656, 1, 0), (2147483648, 2147483688, 2, 0), (2147483648, 2147483688, 3, 0), (2147483648, 2147484048, 4, 0)]
def dn1839 : e2_Q6 := (dn1547, dn1763)
def dn1840 : e2_Q7 := (dn1839, dn1520)
def dn1841 : e2_Q8 := (dn1840, dn1799)
noncomputable def h_d215_1 : ev_H := (dn1841 : e2_Q8)
def al_d215_2 : List ev_V := [(2, 83, 0), (11, 2147483648, 2147483655), (11, 2147483648, 2147483655), (11, 2147483648, 2147483655), (0, 3, 0), (11, 2147483712, 2147491648), (11, 0, 4294967295), (1, 4, 4294967296), (9, 0, 0)]
def E_d215_2 : e2_E := [(2147483648, 2147583648, 0, 0), (2147483649, 2147483656, 1, 0), (2147483648, 2147483688, 2, 0), (2147483648, 2147483688, 3, 0), (2147483648, 2147491648, 4, 0)]
def dn1842 : e2_Q6 := (dn1547, dn1771)
def dn1843 : e2_Q7 := (dn1842, dn1520)
def dn1844 : e2_Q8 := (dn1843, dn1799)
noncomputable def h_d215_2 : ev_H := (dn1844 : e2_Q8)
noncomputable def cl_d215_e : List (Nat × e2_S) := [(154, e2_cutL (al_d215_0.set 7 (11, 2147483648, 2147483668)) 4 (E_d215_0.take 4) h_d215_0),
  (154, e2_cutL (al_d215_1.set 7 (11, 2147483648, 2147484048)) 4 (E_d215_1.take 4) h_d215_1),
  (154, e2_cutL (al_d215_2.set 7 (11, 2147483648, 2147491648)) 4 (E_d215_2.take 4) h_d215_2)]
set_option maxRecDepth 1000000 in
theorem ck_d215_e : e2_run (e2_cal S_d215 I_d215 4000 2) (e2_fin rs_d215) e2x_269 (e2_bpL cl_d215_e) (e2_cutA cl_d215_e) 4000 (e2_seek e2x_269 0) (e2_al 9 as_d215) [] E_d215 f_d215 = true := by decide +kernel
noncomputable def cl_d215_0 : List (Nat × e2_S) := [(154, e2_cutL (al_d215_0.set 7 (13, 12, 2147483668)) 4 (E_d215_0.take 4) h_d215_0)]
set_option maxRecDepth 1000000 in
theorem ck_d215_0 : e2_runM (e2_cal S_d215 I_d215 4000 2) (e2_fin rs_d215) e2x_269 (e2_bpL cl_d215_0) (e2_cutA cl_d215_0) 4000 (e2_seek e2x_269 154) al_d215_0 [] E_d215_0 h_d215_0 = true := by decide +kernel
set_option maxRecDepth 1000000 in
theorem ci_d215_0 : e2_idl 4 (al_d215_0.set 7 (9, 0, 0)) = true := by decide +kernel
set_option maxRecDepth 1000000 in
theorem cj_d215_0 : e2_idh 4 8 h_d215_0 = true := by decide +kernel
noncomputable def cl_d215_1 : List (Nat × e2_S) := [(154, e2_cutL (al_d215_1.set 7 (13, 12, 2147484048)) 4 (E_d215_1.take 4) h_d215_1)]
set_option maxRecDepth 1000000 in
theorem ck_d215_1 : e2_runM (e2_cal S_d215 I_d215 4000 2) (e2_fin rs_d215) e2x_269 (e2_bpL cl_d215_1) (e2_cutA cl_d215_1) 4000 (e2_seek e2x_269 154) al_d215_1 [] E_d215_1 h_d215_1 = true := by decide +kernel
set_option maxRecDepth 1000000 in
theorem ci_d215_1 : e2_idl 4 (al_d215_1.set 7 (9, 0, 0)) = true := by decide +kernel
set_option maxRecDepth 1000000 in
theorem cj_d215_1 : e2_idh 4 8 h_d215_1 = true := by decide +kernel
noncomputable def cl_d215_2 : List (Nat × e2_S) := [(154, e2_cutL (al_d215_2.set 7 (13, 12, 2147491648)) 4 (E_d215_2.take 4) h_d215_2)]
set_option maxRecDepth 1000000 in
theorem ck_d215_2 : e2_runM (e2_cal S_d215 I_d215 4000 2) (e2_fin rs_d215) e2x_269 (e2_bpL cl_d215_2) (e2_cutA cl_d215_2) 4000 (e2_seek e2x_269 154) al_d215_2 [] E_d215_2 h_d215_2 = true := by decide +kernel
set_option maxRecDepth 1000000 in
theorem ci_d215_2 : e2_idl 4 (al_d215_2.set 7 (9, 0, 0)) = true := by decide +kernel
set_option maxRecDepth 1000000 in
theorem cj_d215_2 : e2_idh 4 8 h_d215_2 = true := by decide +kernel
theorem cs_d215 (hen : en_ok) (l : Launch) (hh : e2_hand_d l) : e2_smOk l 63 s_d215 := by
  refine e2_conG (H := 60) (n := 2) (C := evd_269) (S := S_d215) (I := I_d215) (fuel := 4000) hen ei_269 (e2_fa (hh _ hm_d2) (e2_fa ((cs_d20 hen l).mono (by decide)) (e2_fa ((cs_d207 hen l).mono (by decide)) (e2_fa ((cs_d208 hen l).mono (by decide)) (e2_fa ((cs_d209 hen l).mono (by decide)) (e2_fa ((cs_d210 hen l).mono (by decide)) (e2_fa ((cs_d211 hen l).mono (by decide)) (e2_fa ((cs_d212 hen l).mono (by decide)) e2_fz)))))))) (e2_fa ein_212 (e2_fa ein_216 (e2_fa ein_217 (e2_fa ein_219 e2_fz)))) (by decide) co_d215 fun M d _ hC hcall p e R s m args below meth c Q D cA A ads r0 ha hl0 => ?_
  have L_0 : e2_gdM M p l e R s m args below meth c Q D cA A ads r0 154 al_d215_0 [] E_d215_0 h_d215_0 := by
    refine e2_indL (u := 4) (j := 7) (lo := 2147483648) (hi := 2147483668) (b := 4) (dd := 0) hl0 (by decide) rfl rfl (Or.inr ⟨rfl, rfl⟩) rfl ci_d215_0 cj_d215_0 ?_
    intro r_0 k_0 hk_0 hp_0 hs_0 hn_0
    have hl_0 : r_0.length ≤ 5 := hs_0.len rfl
    have ha_0 := ha.ext hp_0
    exact e2_fromM hen ha_0 hcall (e2_cutA_ok (e2_fa (fun al st E h hc => hn_0 al st E h hc) e2_fz)) (hC []) (X := e2x_269) ex2_269 154 ck_d215_0
  have EN_0 := e2_entL (u := 4) (j := 7) (lo := 2147483648) (hi := 2147483668) hl0 rfl rfl rfl ci_d215_0 cj_d215_0 L_0
  have L_1 : e2_gdM M p l e R s m args below meth c Q D cA A ads r0 154 al_d215_1 [] E_d215_1 h_d215_1 := by
    refine e2_indL (u := 4) (j := 7) (lo := 2147483648) (hi := 2147484048) (b := 4) (dd := 0) hl0 (by decide) rfl rfl (Or.inr ⟨rfl, rfl⟩) rfl ci_d215_1 cj_d215_1 ?_
    intro r_1 k_1 hk_1 hp_1 hs_1 hn_1
    have hl_1 : r_1.length ≤ 5 := hs_1.len rfl
    have ha_1 := ha.ext hp_1
    exact e2_fromM hen ha_1 hcall (e2_cutA_ok (e2_fa (fun al st E h hc => hn_1 al st E h hc) e2_fz)) (hC []) (X := e2x_269) ex2_269 154 ck_d215_1
  have EN_1 := e2_entL (u := 4) (j := 7) (lo := 2147483648) (hi := 2147484048) hl0 rfl rfl rfl ci_d215_1 cj_d215_1 L_1
  have L_2 : e2_gdM M p l e R s m args below meth c Q D cA A ads r0 154 al_d215_2 [] E_d215_2 h_d215_2 := by
    refine e2_indL (u := 4) (j := 7) (lo := 2147483648) (hi := 2147491648) (b := 4) (dd := 0) hl0 (by decide) rfl rfl (Or.inr ⟨rfl, rfl⟩) rfl ci_d215_2 cj_d215_2 ?_
    intro r_2 k_2 hk_2 hp_2 hs_2 hn_2
    have hl_2 : r_2.length ≤ 5 := hs_2.len rfl
    have ha_2 := ha.ext hp_2
    exact e2_fromM hen ha_2 hcall (e2_cutA_ok (e2_fa (fun al st E h hc => hn_2 al st E h hc) e2_fz)) (hC []) (X := e2x_269) ex2_269 154 ck_d215_2
  have EN_2 := e2_entL (u := 4) (j := 7) (lo := 2147483648) (hi := 2147491648) hl0 rfl rfl rfl ci_d215_2 cj_d215_2 L_2
  exact e2_from hen ha hcall (e2_cutA_ok (e2_fa (fun al st E h hc => EN_0 al st E h hc) (e2_fa (fun al st E h hc => EN_1 al st E h hc) (e2_fa (fun al st E h hc => EN_2 al st E h hc) e2_fz)))) (hC []) (X := e2x_269) ex2_269 0 ck_d215_e
/-! d216 X10_write -/
def as_d216 : List ev_V := [(2, 83, 0), (11, 0, 4294967295), (11, 0, 4294967295), (11, 0, 4294967295)]
def E_d216 : e2_E := [(2147483648, 2147583648, 0, 0), (2147483648, 2147483656, 1, 0), (2147483648, 2147483688, 2, 0), (2147483648, 2147483688, 3, 0)]
def dn1845 : e2_Q6 := (dn1552, dn1811)
def dn1846 : e2_Q7 := (dn1845, dn1533)
def dn1847 : e2_Q7 := (dn1815, dn1652)
def dn1848 : e2_Q8 := (dn1846, dn1847)
noncomputable def f_d216 : ev_H := (dn1848 : e2_Q8)
noncomputable def q_d216_0 : ev_H := (dn1848 : e2_Q8)
noncomputable def rs_d216 : e2_Rs := [((11, 0, 4294967295), q_d216_0)]
noncomputable def s_d216 : e2_Sm := (269, as_d216, E_d216, f_d216, rs_d216)
noncomputable def S_d216 : List e2_Sm := [s_d2, s_d22, s_d207, s_d208, s_d209, s_d210, s_d211, s_d212]
noncomputable def I_d216 : List e2_In := [(212, 3, e2x_212), (216, 1, e2x_216), (217, 1, e2x_217), (219, 2, e2x_219)]
set_option maxRecDepth 1000000 in
theorem co_d216 : e2_okSB E_d216.length as_d216 f_d216 rs_d216 = true := by decide +kernel
def al_d216_0 : List ev_V := [(2, 83, 0), (11, 2147483648, 2147483655), (0, 4294967295, 0), (0, 4294967295, 0), (0, 1, 0), (11, 2147483652, 2147483668), (11, 0, 4294967295), (1, 4, 4294967296), (9, 0, 0)]
def E_d216_0 : e2_E := [(2147483648, 2147583648, 0, 0), (2147483649, 2147483656, 1, 0), (2147483648, 2147483688, 2, 0), (2147483648, 2147483688, 3, 0), (2147483648, 2147483668, 4, 0)]
def dn1849 : e2_Q6 := (dn1552, dn1819)
def dn1850 : e2_Q7 := (dn1849, dn1533)
def dn1851 : e2_Q8 := (dn1850, dn1847)
noncomputable def h_d216_0 : ev_H := (dn1851 : e2_Q8)
def al_d216_1 : List ev_V := [(2, 83, 0), (11, 2147483648, 2147483655), (11, 2147483648, 2147483655), (0, 4294967295, 0), (0, 2, 0), (11, 2147483664, 2147484048), (11, 0, 4294967295), (1, 4, 4294967296), (9, 0, 0)]
def E_d216_1 : e2_E := [(2147483648, 2147583648, 0, 0), (2147483649, 2147483656, 1, 0), (2147483648, 2147483688, 2, 0), (2147483648, 2147483688, 3, 0), (2147483648, 2147484048, 4, 0)]
def dn1852 : e2_Q6 := (dn1552, dn1824)
def dn1853 : e2_Q7 := (dn1852, dn1533)
def dn1854 : e2_Q8 := (dn1853, dn1847)
noncomputable def h_d216_1 : ev_H := (dn1854 : e2_Q8)
def al_d216_2 : List ev_V := [(2, 83, 0), (11, 2147483648, 2147483655), (11, 2147483648, 2147483655), (11, 2147483648, 2147483655), (0, 3, 0), (11, 2147483712, 2147491648), (11, 0, 4294967295), (1, 4, 4294967296), (9, 0, 0)]
def E_d216_2 : e2_E := [(2147483648, 2147583648, 0, 0), (2147483649, 2147483656, 1, 0), (2147483648, 2147483688, 2, 0), (2147483648, 2147483688, 3, 0), (2147483648, 2147491648, 4, 0)]
def dn1855 : e2_Q6 := (dn1552, dn1829)
def dn1856 : e2_Q7 := (dn1855, dn1533)
def dn1857 : e2_Q8 := (dn1856, dn1847)
noncomputable def h_d216_2 : ev_H := (dn1857 : e2_Q8)
noncomputable def cl_d216_e : List (Nat × e2_S) := [(154, e2_cutL (al_d216_0.set 7 (11, 2147483648, 2147483668)) 4 (E_d216_0.take 4) h_d216_0),
  (154, e2_cutL (al_d216_1.set 7 (11, 2147483648, 2147484048)) 4 (E_d216_1.take 4) h_d216_1),
  (154, e2_cutL (al_d216_2.set 7 (11, 2147483648, 2147491648)) 4 (E_d216_2.take 4) h_d216_2)]
set_option maxRecDepth 1000000 in
theorem ck_d216_e : e2_run (e2_cal S_d216 I_d216 4000 2) (e2_fin rs_d216) e2x_269 (e2_bpL cl_d216_e) (e2_cutA cl_d216_e) 4000 (e2_seek e2x_269 0) (e2_al 9 as_d216) [] E_d216 f_d216 = true := by decide +kernel
noncomputable def cl_d216_0 : List (Nat × e2_S) := [(154, e2_cutL (al_d216_0.set 7 (13, 12, 2147483668)) 4 (E_d216_0.take 4) h_d216_0)]
set_option maxRecDepth 1000000 in
theorem ck_d216_0 : e2_runM (e2_cal S_d216 I_d216 4000 2) (e2_fin rs_d216) e2x_269 (e2_bpL cl_d216_0) (e2_cutA cl_d216_0) 4000 (e2_seek e2x_269 154) al_d216_0 [] E_d216_0 h_d216_0 = true := by decide +kernel
set_option maxRecDepth 1000000 in
theorem ci_d216_0 : e2_idl 4 (al_d216_0.set 7 (9, 0, 0)) = true := by decide +kernel
set_option maxRecDepth 1000000 in
theorem cj_d216_0 : e2_idh 4 8 h_d216_0 = true := by decide +kernel
noncomputable def cl_d216_1 : List (Nat × e2_S) := [(154, e2_cutL (al_d216_1.set 7 (13, 12, 2147484048)) 4 (E_d216_1.take 4) h_d216_1)]
set_option maxRecDepth 1000000 in
theorem ck_d216_1 : e2_runM (e2_cal S_d216 I_d216 4000 2) (e2_fin rs_d216) e2x_269 (e2_bpL cl_d216_1) (e2_cutA cl_d216_1) 4000 (e2_seek e2x_269 154) al_d216_1 [] E_d216_1 h_d216_1 = true := by decide +kernel
set_option maxRecDepth 1000000 in
theorem ci_d216_1 : e2_idl 4 (al_d216_1.set 7 (9, 0, 0)) = true := by decide +kernel
set_option maxRecDepth 1000000 in
theorem cj_d216_1 : e2_idh 4 8 h_d216_1 = true := by decide +kernel
noncomputable def cl_d216_2 : List (Nat × e2_S) := [(154, e2_cutL (al_d216_2.set 7 (13, 12, 2147491648)) 4 (E_d216_2.take 4) h_d216_2)]
set_option maxRecDepth 1000000 in
theorem ck_d216_2 : e2_runM (e2_cal S_d216 I_d216 4000 2) (e2_fin rs_d216) e2x_269 (e2_bpL cl_d216_2) (e2_cutA cl_d216_2) 4000 (e2_seek e2x_269 154) al_d216_2 [] E_d216_2 h_d216_2 = true := by decide +kernel
set_option maxRecDepth 1000000 in
theorem ci_d216_2 : e2_idl 4 (al_d216_2.set 7 (9, 0, 0)) = true := by decide +kernel
set_option maxRecDepth 1000000 in
theorem cj_d216_2 : e2_idh 4 8 h_d216_2 = true := by decide +kernel
theorem cs_d216 (hen : en_ok) (l : Launch) (hh : e2_hand_d l) : e2_smOk l 65 s_d216 := by
  refine e2_conG (H := 62) (n := 2) (C := evd_269) (S := S_d216) (I := I_d216) (fuel := 4000) hen ei_269 (e2_fa ((hh _ hm_d2).mono (by decide)) (e2_fa (cs_d22 hen l hh) (e2_fa ((cs_d207 hen l).mono (by decide)) (e2_fa ((cs_d208 hen l).mono (by decide)) (e2_fa ((cs_d209 hen l).mono (by decide)) (e2_fa ((cs_d210 hen l).mono (by decide)) (e2_fa ((cs_d211 hen l).mono (by decide)) (e2_fa ((cs_d212 hen l).mono (by decide)) e2_fz)))))))) (e2_fa ein_212 (e2_fa ein_216 (e2_fa ein_217 (e2_fa ein_219 e2_fz)))) (by decide) co_d216 fun M d _ hC hcall p e R s m args below meth c Q D cA A ads r0 ha hl0 => ?_
  have L_0 : e2_gdM M p l e R s m args below meth c Q D cA A ads r0 154 al_d216_0 [] E_d216_0 h_d216_0 := by
    refine e2_indL (u := 4) (j := 7) (lo := 2147483648) (hi := 2147483668) (b := 4) (dd := 0) hl0 (by decide) rfl rfl (Or.inr ⟨rfl, rfl⟩) rfl ci_d216_0 cj_d216_0 ?_
    intro r_0 k_0 hk_0 hp_0 hs_0 hn_0
    have hl_0 : r_0.length ≤ 5 := hs_0.len rfl
    have ha_0 := ha.ext hp_0
    exact e2_fromM hen ha_0 hcall (e2_cutA_ok (e2_fa (fun al st E h hc => hn_0 al st E h hc) e2_fz)) (hC []) (X := e2x_269) ex2_269 154 ck_d216_0
  have EN_0 := e2_entL (u := 4) (j := 7) (lo := 2147483648) (hi := 2147483668) hl0 rfl rfl rfl ci_d216_0 cj_d216_0 L_0
  have L_1 : e2_gdM M p l e R s m args below meth c Q D cA A ads r0 154 al_d216_1 [] E_d216_1 h_d216_1 := by
    refine e2_indL (u := 4) (j := 7) (lo := 2147483648) (hi := 2147484048) (b := 4) (dd := 0) hl0 (by decide) rfl rfl (Or.inr ⟨rfl, rfl⟩) rfl ci_d216_1 cj_d216_1 ?_
    intro r_1 k_1 hk_1 hp_1 hs_1 hn_1
    have hl_1 : r_1.length ≤ 5 := hs_1.len rfl
    have ha_1 := ha.ext hp_1
    exact e2_fromM hen ha_1 hcall (e2_cutA_ok (e2_fa (fun al st E h hc => hn_1 al st E h hc) e2_fz)) (hC []) (X := e2x_269) ex2_269 154 ck_d216_1
  have EN_1 := e2_entL (u := 4) (j := 7) (lo := 2147483648) (hi := 2147484048) hl0 rfl rfl rfl ci_d216_1 cj_d216_1 L_1
  have L_2 : e2_gdM M p l e R s m args below meth c Q D cA A ads r0 154 al_d216_2 [] E_d216_2 h_d216_2 := by
    refine e2_indL (u := 4) (j := 7) (lo := 2147483648) (hi := 2147491648) (b := 4) (dd := 0) hl0 (by decide) rfl rfl (Or.inr ⟨rfl, rfl⟩) rfl ci_d216_2 cj_d216_2 ?_
    intro r_2 k_2 hk_2 hp_2 hs_2 hn_2
    have hl_2 : r_2.length ≤ 5 := hs_2.len rfl
    have ha_2 := ha.ext hp_2
    exact e2_fromM hen ha_2 hcall (e2_cutA_ok (e2_fa (fun al st E h hc => hn_2 al st E h hc) e2_fz)) (hC []) (X := e2x_269) ex2_269 154 ck_d216_2
  have EN_2 := e2_entL (u := 4) (j := 7) (lo := 2147483648) (hi := 2147491648) hl0 rfl rfl rfl ci_d216_2 cj_d216_2 L_2
  exact e2_from hen ha hcall (e2_cutA_ok (e2_fa (fun al st E h hc => EN_0 al st E h hc) (e2_fa (fun al st E h hc => EN_1 al st E h hc) (e2_fa (fun al st E h hc => EN_2 al st E h hc) e2_fz)))) (hC []) (X := e2x_269) ex2_269 0 ck_d216_e
