/-! CONTRACTS a, printed by a program -/
/-! a199 X4_harmfulCells -/
def as_a199 : List ev_V := [(2, 59, 0)]
def E_a199 : e2_E := [(2147483648, 2147583648, 0, 0)]
noncomputable def f_a199 : ev_H := (an655 : e2_Q8)
noncomputable def q_a199_0 : ev_H := (an655 : e2_Q8)
noncomputable def rs_a199 : e2_Rs := [((11, 0, 4294967295), q_a199_0)]
noncomputable def s_a199 : e2_Sm := (82, as_a199, E_a199, f_a199, rs_a199)
noncomputable def S_a199 : List e2_Sm := [s_a178]
noncomputable def I_a199 : List e2_In := [(159, 2, e2x_159)]
set_option maxRecDepth 1000000 in
theorem co_a199 : e2_okSB E_a199.length as_a199 f_a199 rs_a199 = true := by decide +kernel
def al_a199_0 : List ev_V := [(2, 59, 0), (11, 0, 4294967295), (1, 1, 4294967296)]
def E_a199_0 : e2_E := [(2147483648, 2147583648, 0, 0), (2147483648, 2147483668, 1, 0)]
noncomputable def h_a199_0 : ev_H := (an655 : e2_Q8)
noncomputable def cl_a199_e : List (Nat × e2_S) := [(4, e2_cutL (al_a199_0.set 2 (11, 2147483648, 2147483668)) 1 (E_a199_0.take 1) h_a199_0)]
set_option maxRecDepth 1000000 in
theorem ck_a199_e : e2_run (e2_cal S_a199 I_a199 4000 1) (e2_fin rs_a199) e2x_82 (e2_bpL cl_a199_e) (e2_cutA cl_a199_e) 4000 (e2_seek e2x_82 0) (e2_al 3 as_a199) [] E_a199 f_a199 = true := by decide +kernel
noncomputable def cl_a199_0 : List (Nat × e2_S) := [(4, e2_cutL (al_a199_0.set 2 (13, 9, 2147483668)) 1 (E_a199_0.take 1) h_a199_0)]
set_option maxRecDepth 1000000 in
theorem ck_a199_0 : e2_runM (e2_cal S_a199 I_a199 4000 1) (e2_fin rs_a199) e2x_82 (e2_bpL cl_a199_0) (e2_cutA cl_a199_0) 4000 (e2_seek e2x_82 4) al_a199_0 [] E_a199_0 h_a199_0 = true := by decide +kernel
set_option maxRecDepth 1000000 in
theorem ci_a199_0 : e2_idl 1 (al_a199_0.set 2 (9, 0, 0)) = true := by decide +kernel
set_option maxRecDepth 1000000 in
theorem cj_a199_0 : e2_idh 1 8 h_a199_0 = true := by decide +kernel
theorem cs_a199 (hen : en_ok) (l : Launch) (hh : e2_hand_a l) : e2_smOk l 63 s_a199 := by
  refine e2_conG (H := 61) (n := 1) (C := evd_82) (S := S_a199) (I := I_a199) (fuel := 4000) hen ei_82 (e2_fa (cs_a178 hen l hh) e2_fz) (e2_fa ein_159 e2_fz) (by decide) co_a199 fun M d _ hC hcall p e R s m args below meth c Q D cA A ads r0 ha hl0 => ?_
  have L_0 : e2_gdM M p l e R s m args below meth c Q D cA A ads r0 4 al_a199_0 [] E_a199_0 h_a199_0 := by
    refine e2_indL (u := 1) (j := 2) (lo := 2147483648) (hi := 2147483668) (b := 1) (dd := 0) hl0 (by decide) rfl rfl (Or.inr ⟨rfl, rfl⟩) rfl ci_a199_0 cj_a199_0 ?_
    intro r_0 k_0 hk_0 hp_0 hs_0 hn_0
    have hl_0 : r_0.length ≤ 2 := hs_0.len rfl
    have ha_0 := ha.ext hp_0
    exact e2_fromM hen ha_0 hcall (e2_cutA_ok (e2_fa (fun al st E h hc => hn_0 al st E h hc) e2_fz)) (hC []) (X := e2x_82) rfl 4 ck_a199_0
  have EN_0 := e2_entL (u := 1) (j := 2) (lo := 2147483648) (hi := 2147483668) hl0 rfl rfl rfl ci_a199_0 cj_a199_0 L_0
  exact e2_from hen ha hcall (e2_cutA_ok (e2_fa (fun al st E h hc => EN_0 al st E h hc) e2_fz)) (hC []) (X := e2x_82) rfl 0 ck_a199_e
/-! a200 X4_losingCells -/
def as_a200 : List ev_V := [(2, 59, 0), (11, 2147483648, 2147483651)]
def E_a200 : e2_E := [(2147483648, 2147583648, 0, 0)]
noncomputable def f_a200 : ev_H := (an665 : e2_Q8)
noncomputable def q_a200_0 : ev_H := (an665 : e2_Q8)
noncomputable def rs_a200 : e2_Rs := [((11, 0, 4294967295), q_a200_0)]
noncomputable def s_a200 : e2_Sm := (83, as_a200, E_a200, f_a200, rs_a200)
noncomputable def S_a200 : List e2_Sm := [s_a180]
noncomputable def I_a200 : List e2_In := [(159, 2, e2x_159)]
set_option maxRecDepth 1000000 in
theorem co_a200 : e2_okSB E_a200.length as_a200 f_a200 rs_a200 = true := by decide +kernel
def al_a200_0 : List ev_V := [(2, 59, 0), (11, 2147483648, 2147483651), (11, 0, 4294967295), (11, 0, 4294967295), (1, 1, 4294967296)]
def E_a200_0 : e2_E := [(2147483648, 2147583648, 0, 0), (2147483648, 2147483668, 1, 0)]
noncomputable def h_a200_0 : ev_H := (an665 : e2_Q8)
noncomputable def cl_a200_e : List (Nat × e2_S) := [(15, e2_cutL (al_a200_0.set 4 (11, 2147483648, 2147483668)) 1 (E_a200_0.take 1) h_a200_0)]
set_option maxRecDepth 1000000 in
theorem ck_a200_e : e2_run (e2_cal S_a200 I_a200 4000 1) (e2_fin rs_a200) e2x_83 (e2_bpL cl_a200_e) (e2_cutA cl_a200_e) 4000 (e2_seek e2x_83 0) (e2_al 5 as_a200) [] E_a200 f_a200 = true := by decide +kernel
noncomputable def cl_a200_0 : List (Nat × e2_S) := [(15, e2_cutL (al_a200_0.set 4 (13, 9, 2147483668)) 1 (E_a200_0.take 1) h_a200_0)]
set_option maxRecDepth 1000000 in
theorem ck_a200_0 : e2_runM (e2_cal S_a200 I_a200 4000 1) (e2_fin rs_a200) e2x_83 (e2_bpL cl_a200_0) (e2_cutA cl_a200_0) 4000 (e2_seek e2x_83 15) al_a200_0 [] E_a200_0 h_a200_0 = true := by decide +kernel
set_option maxRecDepth 1000000 in
theorem ci_a200_0 : e2_idl 1 (al_a200_0.set 4 (9, 0, 0)) = true := by decide +kernel
set_option maxRecDepth 1000000 in
theorem cj_a200_0 : e2_idh 1 8 h_a200_0 = true := by decide +kernel
theorem cs_a200 (hen : en_ok) (l : Launch) (hh : e2_hand_a l) : e2_smOk l 63 s_a200 := by
  refine e2_conG (H := 61) (n := 1) (C := evd_83) (S := S_a200) (I := I_a200) (fuel := 4000) hen ei_83 (e2_fa (cs_a180 hen l hh) e2_fz) (e2_fa ein_159 e2_fz) (by decide) co_a200 fun M d _ hC hcall p e R s m args below meth c Q D cA A ads r0 ha hl0 => ?_
  have L_0 : e2_gdM M p l e R s m args below meth c Q D cA A ads r0 15 al_a200_0 [] E_a200_0 h_a200_0 := by
    refine e2_indL (u := 1) (j := 4) (lo := 2147483648) (hi := 2147483668) (b := 1) (dd := 0) hl0 (by decide) rfl rfl (Or.inr ⟨rfl, rfl⟩) rfl ci_a200_0 cj_a200_0 ?_
    intro r_0 k_0 hk_0 hp_0 hs_0 hn_0
    have hl_0 : r_0.length ≤ 2 := hs_0.len rfl
    have ha_0 := ha.ext hp_0
    exact e2_fromM hen ha_0 hcall (e2_cutA_ok (e2_fa (fun al st E h hc => hn_0 al st E h hc) e2_fz)) (hC []) (X := e2x_83) rfl 15 ck_a200_0
  have EN_0 := e2_entL (u := 1) (j := 4) (lo := 2147483648) (hi := 2147483668) hl0 rfl rfl rfl ci_a200_0 cj_a200_0 L_0
  exact e2_from hen ha hcall (e2_cutA_ok (e2_fa (fun al st E h hc => EN_0 al st E h hc) e2_fz)) (hC []) (X := e2x_83) rfl 0 ck_a200_e
/-! a201 X4_worstReply -/
def as_a201 : List ev_V := [(2, 59, 0), (11, 2147483648, 2147483651), (11, 0, 4294967295), (11, 0, 4294967295)]
def E_a201 : e2_E := [(2147483648, 2147583648, 0, 0)]
noncomputable def f_a201 : ev_H := (an665 : e2_Q8)
noncomputable def q_a201_0 : ev_H := (an665 : e2_Q8)
noncomputable def rs_a201 : e2_Rs := [((11, 2147483647, 2147483667), q_a201_0)]
noncomputable def s_a201 : e2_Sm := (85, as_a201, E_a201, f_a201, rs_a201)
noncomputable def S_a201 : List e2_Sm := [s_a180]
noncomputable def I_a201 : List e2_In := [(159, 2, e2x_159)]
set_option maxRecDepth 1000000 in
theorem co_a201 : e2_okSB E_a201.length as_a201 f_a201 rs_a201 = true := by decide +kernel
def al_a201_0 : List ev_V := [(2, 59, 0), (11, 2147483648, 2147483651), (11, 0, 4294967295), (11, 0, 4294967295), (11, 2147483647, 2147483667), (11, 0, 4294967295), (1, 1, 4294967296), (9, 0, 0)]
def E_a201_0 : e2_E := [(2147483648, 2147583648, 0, 0), (2147483648, 2147483668, 1, 0)]
noncomputable def h_a201_0 : ev_H := (an665 : e2_Q8)
noncomputable def cl_a201_e : List (Nat × e2_S) := [(9, e2_cutL (al_a201_0.set 6 (11, 2147483648, 2147483668)) 1 (E_a201_0.take 1) h_a201_0)]
set_option maxRecDepth 1000000 in
theorem ck_a201_e : e2_run (e2_cal S_a201 I_a201 4000 1) (e2_fin rs_a201) e2x_85 (e2_bpL cl_a201_e) (e2_cutA cl_a201_e) 4000 (e2_seek e2x_85 0) (e2_al 8 as_a201) [] E_a201 f_a201 = true := by decide +kernel
noncomputable def cl_a201_0 : List (Nat × e2_S) := [(9, e2_cutL (al_a201_0.set 6 (13, 9, 2147483668)) 1 (E_a201_0.take 1) h_a201_0)]
set_option maxRecDepth 1000000 in
theorem ck_a201_0 : e2_runM (e2_cal S_a201 I_a201 4000 1) (e2_fin rs_a201) e2x_85 (e2_bpL cl_a201_0) (e2_cutA cl_a201_0) 4000 (e2_seek e2x_85 9) al_a201_0 [] E_a201_0 h_a201_0 = true := by decide +kernel
set_option maxRecDepth 1000000 in
theorem ci_a201_0 : e2_idl 1 (al_a201_0.set 6 (9, 0, 0)) = true := by decide +kernel
set_option maxRecDepth 1000000 in
theorem cj_a201_0 : e2_idh 1 8 h_a201_0 = true := by decide +kernel
theorem cs_a201 (hen : en_ok) (l : Launch) (hh : e2_hand_a l) : e2_smOk l 63 s_a201 := by
  refine e2_conG (H := 61) (n := 1) (C := evd_85) (S := S_a201) (I := I_a201) (fuel := 4000) hen ei_85 (e2_fa (cs_a180 hen l hh) e2_fz) (e2_fa ein_159 e2_fz) (by decide) co_a201 fun M d _ hC hcall p e R s m args below meth c Q D cA A ads r0 ha hl0 => ?_
  have L_0 : e2_gdM M p l e R s m args below meth c Q D cA A ads r0 9 al_a201_0 [] E_a201_0 h_a201_0 := by
    refine e2_indL (u := 1) (j := 6) (lo := 2147483648) (hi := 2147483668) (b := 1) (dd := 0) hl0 (by decide) rfl rfl (Or.inr ⟨rfl, rfl⟩) rfl ci_a201_0 cj_a201_0 ?_
    intro r_0 k_0 hk_0 hp_0 hs_0 hn_0
    have hl_0 : r_0.length ≤ 2 := hs_0.len rfl
    have ha_0 := ha.ext hp_0
    exact e2_fromM hen ha_0 hcall (e2_cutA_ok (e2_fa (fun al st E h hc => hn_0 al st E h hc) e2_fz)) (hC []) (X := e2x_85) rfl 9 ck_a201_0
  have EN_0 := e2_entL (u := 1) (j := 6) (lo := 2147483648) (hi := 2147483668) hl0 rfl rfl rfl ci_a201_0 cj_a201_0 L_0
  exact e2_from hen ha hcall (e2_cutA_ok (e2_fa (fun al st E h hc => EN_0 al st E h hc) e2_fz)) (hC []) (X := e2x_85) rfl 0 ck_a201_e
/-! a202 X4_fight -/
def as_a202 : List ev_V := [(2, 59, 0), (11, 2147483648, 2147483651), (11, 0, 4294967295), (11, 0, 4294967295), (11, 2147483648, 2147483650)]
def E_a202 : e2_E := [(2147483648, 2147583648, 0, 0)]
noncomputable def f_a202 : ev_H := (an665 : e2_Q8)
noncomputable def q_a202_0 : ev_H := (an665 : e2_Q8)
noncomputable def rs_a202 : e2_Rs := [((11, 0, 4294967295), q_a202_0)]
noncomputable def s_a202 : e2_Sm := (84, as_a202, E_a202, f_a202, rs_a202)
noncomputable def S_a202 : List e2_Sm := [s_a180, s_a201]
noncomputable def I_a202 : List e2_In := [(159, 2, e2x_159)]
set_option maxRecDepth 1000000 in
theorem co_a202 : e2_okSB E_a202.length as_a202 f_a202 rs_a202 = true := by decide +kernel
def al_a202_0 : List ev_V := [(2, 59, 0), (11, 2147483648, 2147483651), (11, 0, 4294967295), (11, 0, 4294967295), (11, 2147483648, 2147483650), (11, 2147483647, 2147483667), (11, 2147483647, 2147483667), (11, 0, 4294967295), (1, 1, 4294967296), (9, 0, 0), (9, 0, 0)]
def E_a202_0 : e2_E := [(2147483648, 2147583648, 0, 0), (2147483648, 2147483668, 1, 0)]
noncomputable def h_a202_0 : ev_H := (an665 : e2_Q8)
noncomputable def cl_a202_e : List (Nat × e2_S) := [(12, e2_cutL (al_a202_0.set 8 (11, 2147483648, 2147483668)) 1 (E_a202_0.take 1) h_a202_0)]
set_option maxRecDepth 1000000 in
theorem ck_a202_e : e2_run (e2_cal S_a202 I_a202 4000 1) (e2_fin rs_a202) e2x_84 (e2_bpL cl_a202_e) (e2_cutA cl_a202_e) 4000 (e2_seek e2x_84 0) (e2_al 11 as_a202) [] E_a202 f_a202 = true := by decide +kernel
noncomputable def cl_a202_0 : List (Nat × e2_S) := [(12, e2_cutL (al_a202_0.set 8 (13, 9, 2147483668)) 1 (E_a202_0.take 1) h_a202_0)]
set_option maxRecDepth 1000000 in
theorem ck_a202_0 : e2_runM (e2_cal S_a202 I_a202 4000 1) (e2_fin rs_a202) e2x_84 (e2_bpL cl_a202_0) (e2_cutA cl_a202_0) 4000 (e2_seek e2x_84 12) al_a202_0 [] E_a202_0 h_a202_0 = true := by decide +kernel
set_option maxRecDepth 1000000 in
theorem ci_a202_0 : e2_idl 1 (al_a202_0.set 8 (9, 0, 0)) = true := by decide +kernel
set_option maxRecDepth 1000000 in
theorem cj_a202_0 : e2_idh 1 8 h_a202_0 = true := by decide +kernel
theorem cs_a202 (hen : en_ok) (l : Launch) (hh : e2_hand_a l) : e2_smOk l 65 s_a202 := by
  refine e2_conG (H := 63) (n := 1) (C := evd_84) (S := S_a202) (I := I_a202) (fuel := 4000) hen ei_84 (e2_fa ((cs_a180 hen l hh).mono (by decide)) (e2_fa (cs_a201 hen l hh) e2_fz)) (e2_fa ein_159 e2_fz) (by decide) co_a202 fun M d _ hC hcall p e R s m args below meth c Q D cA A ads r0 ha hl0 => ?_
  have L_0 : e2_gdM M p l e R s m args below meth c Q D cA A ads r0 12 al_a202_0 [] E_a202_0 h_a202_0 := by
    refine e2_indL (u := 1) (j := 8) (lo := 2147483648) (hi := 2147483668) (b := 1) (dd := 0) hl0 (by decide) rfl rfl (Or.inr ⟨rfl, rfl⟩) rfl ci_a202_0 cj_a202_0 ?_
    intro r_0 k_0 hk_0 hp_0 hs_0 hn_0
    have hl_0 : r_0.length ≤ 2 := hs_0.len rfl
    have ha_0 := ha.ext hp_0
    exact e2_fromM hen ha_0 hcall (e2_cutA_ok (e2_fa (fun al st E h hc => hn_0 al st E h hc) e2_fz)) (hC []) (X := e2x_84) rfl 12 ck_a202_0
  have EN_0 := e2_entL (u := 1) (j := 8) (lo := 2147483648) (hi := 2147483668) hl0 rfl rfl rfl ci_a202_0 cj_a202_0 L_0
  exact e2_from hen ha hcall (e2_cutA_ok (e2_fa (fun al st E h hc => EN_0 al st E h hc) e2_fz)) (hC []) (X := e2x_84) rfl 0 ck_a202_e
/-! a203 X5_weighEverywhere -/
def as_a203 : List ev_V := [(2, 47, 0), (11, 2147483648, 2147483655), (11, 0, 4294967295)]
def E_a203 : e2_E := [(2147483648, 2147583648, 0, 0)]
def an803 : e2_Q2 := (an518, an11)
def an804 : e2_Q3 := (an9, an803)
def an805 : e2_Q4 := (an6, an804)
def an806 : e2_Q5 := (an805, an29)
def an807 : e2_Q6 := (an806, an354)
def an808 : e2_Q4 := (an277, an107)
def an809 : e2_Q5 := (an808, an123)
def an810 : e2_Q6 := (an342, an809)
def an811 : e2_Q7 := (an807, an810)
def an812 : e2_Q4 := (an711, an359)
def an813 : e2_Q5 := (an812, an156)
def an814 : e2_Q2 := (an583, an159)
def an815 : e2_Q3 := (an814, an163)
def an816 : e2_Q4 := (an815, an171)
def an817 : e2_Q5 := (an816, an365)
def an818 : e2_Q6 := (an813, an817)
def an819 : e2_Q5 := (an235, an322)
def an820 : e2_Q6 := (an372, an819)
def an821 : e2_Q7 := (an818, an820)
def an822 : e2_Q8 := (an811, an821)
noncomputable def f_a203 : ev_H := (an822 : e2_Q8)
noncomputable def q_a203_0 : ev_H := (an822 : e2_Q8)
noncomputable def rs_a203 : e2_Rs := [((9, 0, 0), q_a203_0)]
noncomputable def s_a203 : e2_Sm := (87, as_a203, E_a203, f_a203, rs_a203)
noncomputable def S_a203 : List e2_Sm := [s_a6]
noncomputable def I_a203 : List e2_In := [(121, 5, e2x_121), (160, 2, e2x_160)]
set_option maxRecDepth 1000000 in
theorem co_a203 : e2_okSB E_a203.length as_a203 f_a203 rs_a203 = true := by decide +kernel
def al_a203_0 : List ev_V := [(2, 47, 0), (11, 2147483648, 2147483655), (11, 0, 4294967295), (1, 1, 4294967296)]
def E_a203_0 : e2_E := [(2147483648, 2147583648, 0, 0), (2147483648, 2147483668, 1, 0)]
noncomputable def h_a203_0 : ev_H := (an822 : e2_Q8)
noncomputable def cl_a203_e : List (Nat × e2_S) := [(2, e2_cutL (al_a203_0.set 3 (11, 2147483648, 2147483668)) 1 (E_a203_0.take 1) h_a203_0)]
set_option maxRecDepth 1000000 in
theorem ck_a203_e : e2_run (e2_cal S_a203 I_a203 4000 1) (e2_fin rs_a203) e2x_87 (e2_bpL cl_a203_e) (e2_cutA cl_a203_e) 4000 (e2_seek e2x_87 0) (e2_al 4 as_a203) [] E_a203 f_a203 = true := by decide +kernel
noncomputable def cl_a203_0 : List (Nat × e2_S) := [(2, e2_cutL (al_a203_0.set 3 (13, 9, 2147483668)) 1 (E_a203_0.take 1) h_a203_0)]
set_option maxRecDepth 1000000 in
theorem ck_a203_0 : e2_runM (e2_cal S_a203 I_a203 4000 1) (e2_fin rs_a203) e2x_87 (e2_bpL cl_a203_0) (e2_cutA cl_a203_0) 4000 (e2_seek e2x_87 2) al_a203_0 [] E_a203_0 h_a203_0 = true := by decide +kernel
set_option maxRecDepth 1000000 in
theorem ci_a203_0 : e2_idl 1 (al_a203_0.set 3 (9, 0, 0)) = true := by decide +kernel
set_option maxRecDepth 1000000 in
theorem cj_a203_0 : e2_idh 1 8 h_a203_0 = true := by decide +kernel
theorem cs_a203 (hen : en_ok) (l : Launch) : e2_smOk l 4 s_a203 := by
  refine e2_conG (H := 2) (n := 1) (C := evd_87) (S := S_a203) (I := I_a203) (fuel := 4000) hen ei_87 (e2_fa (cs_a6 hen l) e2_fz) (e2_fa ein_121 (e2_fa ein_160 e2_fz)) (by decide) co_a203 fun M d _ hC hcall p e R s m args below meth c Q D cA A ads r0 ha hl0 => ?_
  have L_0 : e2_gdM M p l e R s m args below meth c Q D cA A ads r0 2 al_a203_0 [] E_a203_0 h_a203_0 := by
    refine e2_indL (u := 1) (j := 3) (lo := 2147483648) (hi := 2147483668) (b := 1) (dd := 0) hl0 (by decide) rfl rfl (Or.inr ⟨rfl, rfl⟩) rfl ci_a203_0 cj_a203_0 ?_
    intro r_0 k_0 hk_0 hp_0 hs_0 hn_0
    have hl_0 : r_0.length ≤ 2 := hs_0.len rfl
    have ha_0 := ha.ext hp_0
    exact e2_fromM hen ha_0 hcall (e2_cutA_ok (e2_fa (fun al st E h hc => hn_0 al st E h hc) e2_fz)) (hC []) (X := e2x_87) rfl 2 ck_a203_0
  have EN_0 := e2_entL (u := 1) (j := 3) (lo := 2147483648) (hi := 2147483668) hl0 rfl rfl rfl ci_a203_0 cj_a203_0 L_0
  exact e2_from hen ha hcall (e2_cutA_ok (e2_fa (fun al st E h hc => EN_0 al st E h hc) e2_fz)) (hC []) (X := e2x_87) rfl 0 ck_a203_e
/-! a204 X5_begin -/
def as_a204 : List ev_V := [(2, 47, 0), (2, 1, 0), (2, 36, 0), (11, 0, 4294967295)]
def E_a204 : e2_E := [(2147483648, 2147583648, 0, 0)]
def an823 : e2_Q3 := (an33, an536)
def an824 : e2_Q2 := (an530, an42)
def an825 : e2_Q3 := (an40, an824)
def an826 : e2_Q4 := (an823, an825)
def an827 : e2_Q5 := (an826, an353)
def an828 : e2_Q6 := (an806, an827)
def an829 : e2_Q5 := (an270, an92)
def an830 : e2_Q2 := (an530, an105)
def an831 : e2_Q3 := (an103, an830)
def an832 : e2_Q4 := (an277, an831)
def an833 : e2_Q5 := (an832, an123)
def an834 : e2_Q6 := (an829, an833)
def an835 : e2_Q7 := (an828, an834)
def an836 : e2_Q3 := (an814, an550)
def an837 : e2_Q4 := (an836, an171)
def an838 : e2_Q5 := (an837, an365)
def an839 : e2_Q6 := (an813, an838)
def an840 : e2_Q5 := (an311, an371)
def an841 : e2_Q5 := (an558, an336)
def an842 : e2_Q6 := (an840, an841)
def an843 : e2_Q7 := (an839, an842)
def an844 : e2_Q8 := (an835, an843)
noncomputable def f_a204 : ev_H := (an844 : e2_Q8)
def an845 : e2_Q5 := (an558, an322)
def an846 : e2_Q6 := (an840, an845)
def an847 : e2_Q7 := (an839, an846)
def an848 : e2_Q8 := (an835, an847)
noncomputable def q_a204_0 : ev_H := (an848 : e2_Q8)
noncomputable def rs_a204 : e2_Rs := [((9, 0, 0), q_a204_0)]
noncomputable def s_a204 : e2_Sm := (86, as_a204, E_a204, f_a204, rs_a204)
noncomputable def S_a204 : List e2_Sm := [s_a203]
noncomputable def I_a204 : List e2_In := []
set_option maxRecDepth 1000000 in
theorem co_a204 : e2_okSB E_a204.length as_a204 f_a204 rs_a204 = true := by decide +kernel
def al_a204_0 : List ev_V := [(2, 47, 0), (2, 1, 0), (2, 36, 0), (11, 0, 4294967295), (11, 2147483652, 2147483668), (1, 1, 4294967296)]
def E_a204_0 : e2_E := [(2147483648, 2147583648, 0, 0), (2147483648, 2147483656, 1, 0)]
noncomputable def h_a204_0 : ev_H := (an848 : e2_Q8)
noncomputable def cl_a204_e : List (Nat × e2_S) := [(74, e2_cutL (al_a204_0.set 5 (11, 2147483648, 2147483656)) 1 (E_a204_0.take 1) h_a204_0)]
set_option maxRecDepth 1000000 in
theorem ck_a204_e : e2_run (e2_cal S_a204 I_a204 4000 0) (e2_fin rs_a204) e2x_86 (e2_bpL cl_a204_e) (e2_cutA cl_a204_e) 4000 (e2_seek e2x_86 0) (e2_al 6 as_a204) [] E_a204 f_a204 = true := by decide +kernel
noncomputable def cl_a204_0 : List (Nat × e2_S) := [(74, e2_cutL (al_a204_0.set 5 (13, 9, 2147483656)) 1 (E_a204_0.take 1) h_a204_0)]
set_option maxRecDepth 1000000 in
theorem ck_a204_0 : e2_runM (e2_cal S_a204 I_a204 4000 0) (e2_fin rs_a204) e2x_86 (e2_bpL cl_a204_0) (e2_cutA cl_a204_0) 4000 (e2_seek e2x_86 74) al_a204_0 [] E_a204_0 h_a204_0 = true := by decide +kernel
set_option maxRecDepth 1000000 in
theorem ci_a204_0 : e2_idl 1 (al_a204_0.set 5 (9, 0, 0)) = true := by decide +kernel
set_option maxRecDepth 1000000 in
theorem cj_a204_0 : e2_idh 1 8 h_a204_0 = true := by decide +kernel
theorem cs_a204 (hen : en_ok) (l : Launch) : e2_smOk l 5 s_a204 := by
  refine e2_conG (H := 4) (n := 0) (C := evd_86) (S := S_a204) (I := I_a204) (fuel := 4000) hen ei_86 (e2_fa (cs_a203 hen l) e2_fz) e2_fz (by decide) co_a204 fun M d _ hC hcall p e R s m args below meth c Q D cA A ads r0 ha hl0 => ?_
  have L_0 : e2_gdM M p l e R s m args below meth c Q D cA A ads r0 74 al_a204_0 [] E_a204_0 h_a204_0 := by
    refine e2_indL (u := 1) (j := 5) (lo := 2147483648) (hi := 2147483656) (b := 1) (dd := 0) hl0 (by decide) rfl rfl (Or.inr ⟨rfl, rfl⟩) rfl ci_a204_0 cj_a204_0 ?_
    intro r_0 k_0 hk_0 hp_0 hs_0 hn_0
    have hl_0 : r_0.length ≤ 2 := hs_0.len rfl
    have ha_0 := ha.ext hp_0
    exact e2_fromM hen ha_0 hcall (e2_cutA_ok (e2_fa (fun al st E h hc => hn_0 al st E h hc) e2_fz)) (hC []) (X := e2x_86) rfl 74 ck_a204_0
  have EN_0 := e2_entL (u := 1) (j := 5) (lo := 2147483648) (hi := 2147483656) hl0 rfl rfl rfl ci_a204_0 cj_a204_0 L_0
  exact e2_from hen ha hcall (e2_cutA_ok (e2_fa (fun al st E h hc => EN_0 al st E h hc) e2_fz)) (hC []) (X := e2x_86) rfl 0 ck_a204_e
/-! a205 X5_begin -/
def as_a205 : List ev_V := [(2, 47, 0), (2, 1, 0), (2, 40, 0), (11, 0, 4294967295)]
def E_a205 : e2_E := [(2147483648, 2147583648, 0, 0)]
def ac181 : ev_C := (6, [(11, 0, 4294967295), (11, 0, 4294967295), (11, 0, 4294967295), (2, 42, 0), (2, 41, 0), (2, 43, 0)])
def an849 : e2_Q1 := (ac181, ac3)
def an850 : e2_Q2 := (an849, an19)
def an851 : e2_Q3 := (an17, an850)
def an852 : e2_Q4 := (an851, an28)
def an853 : e2_Q5 := (an805, an852)
def an854 : e2_Q4 := (an37, an825)
def an855 : e2_Q5 := (an854, an353)
def an856 : e2_Q6 := (an853, an855)
def an857 : e2_Q7 := (an856, an834)
def an858 : e2_Q2 := (an549, an146)
def an859 : e2_Q3 := (an144, an858)
def an860 : e2_Q4 := (an859, an155)
def an861 : e2_Q5 := (an812, an860)
def an862 : e2_Q6 := (an861, an817)
def an863 : e2_Q7 := (an862, an842)
def an864 : e2_Q8 := (an857, an863)
noncomputable def f_a205 : ev_H := (an864 : e2_Q8)
def an865 : e2_Q7 := (an862, an846)
def an866 : e2_Q8 := (an857, an865)
noncomputable def q_a205_0 : ev_H := (an866 : e2_Q8)
noncomputable def rs_a205 : e2_Rs := [((9, 0, 0), q_a205_0)]
noncomputable def s_a205 : e2_Sm := (86, as_a205, E_a205, f_a205, rs_a205)
noncomputable def S_a205 : List e2_Sm := [s_a203]
noncomputable def I_a205 : List e2_In := []
set_option maxRecDepth 1000000 in
theorem co_a205 : e2_okSB E_a205.length as_a205 f_a205 rs_a205 = true := by decide +kernel
def al_a205_0 : List ev_V := [(2, 47, 0), (2, 1, 0), (2, 40, 0), (11, 0, 4294967295), (11, 2147483652, 2147483668), (1, 1, 4294967296)]
def E_a205_0 : e2_E := [(2147483648, 2147583648, 0, 0), (2147483648, 2147483656, 1, 0)]
noncomputable def h_a205_0 : ev_H := (an866 : e2_Q8)
noncomputable def cl_a205_e : List (Nat × e2_S) := [(74, e2_cutL (al_a205_0.set 5 (11, 2147483648, 2147483656)) 1 (E_a205_0.take 1) h_a205_0)]
set_option maxRecDepth 1000000 in
theorem ck_a205_e : e2_run (e2_cal S_a205 I_a205 4000 0) (e2_fin rs_a205) e2x_86 (e2_bpL cl_a205_e) (e2_cutA cl_a205_e) 4000 (e2_seek e2x_86 0) (e2_al 6 as_a205) [] E_a205 f_a205 = true := by decide +kernel
noncomputable def cl_a205_0 : List (Nat × e2_S) := [(74, e2_cutL (al_a205_0.set 5 (13, 9, 2147483656)) 1 (E_a205_0.take 1) h_a205_0)]
set_option maxRecDepth 1000000 in
theorem ck_a205_0 : e2_runM (e2_cal S_a205 I_a205 4000 0) (e2_fin rs_a205) e2x_86 (e2_bpL cl_a205_0) (e2_cutA cl_a205_0) 4000 (e2_seek e2x_86 74) al_a205_0 [] E_a205_0 h_a205_0 = true := by decide +kernel
set_option maxRecDepth 1000000 in
theorem ci_a205_0 : e2_idl 1 (al_a205_0.set 5 (9, 0, 0)) = true := by decide +kernel
set_option maxRecDepth 1000000 in
theorem cj_a205_0 : e2_idh 1 8 h_a205_0 = true := by decide +kernel
theorem cs_a205 (hen : en_ok) (l : Launch) : e2_smOk l 5 s_a205 := by
  refine e2_conG (H := 4) (n := 0) (C := evd_86) (S := S_a205) (I := I_a205) (fuel := 4000) hen ei_86 (e2_fa (cs_a203 hen l) e2_fz) e2_fz (by decide) co_a205 fun M d _ hC hcall p e R s m args below meth c Q D cA A ads r0 ha hl0 => ?_
  have L_0 : e2_gdM M p l e R s m args below meth c Q D cA A ads r0 74 al_a205_0 [] E_a205_0 h_a205_0 := by
    refine e2_indL (u := 1) (j := 5) (lo := 2147483648) (hi := 2147483656) (b := 1) (dd := 0) hl0 (by decide) rfl rfl (Or.inr ⟨rfl, rfl⟩) rfl ci_a205_0 cj_a205_0 ?_
    intro r_0 k_0 hk_0 hp_0 hs_0 hn_0
    have hl_0 : r_0.length ≤ 2 := hs_0.len rfl
    have ha_0 := ha.ext hp_0
    exact e2_fromM hen ha_0 hcall (e2_cutA_ok (e2_fa (fun al st E h hc => hn_0 al st E h hc) e2_fz)) (hC []) (X := e2x_86) rfl 74 ck_a205_0
  have EN_0 := e2_entL (u := 1) (j := 5) (lo := 2147483648) (hi := 2147483656) hl0 rfl rfl rfl ci_a205_0 cj_a205_0 L_0
  exact e2_from hen ha hcall (e2_cutA_ok (e2_fa (fun al st E h hc => EN_0 al st E h hc) e2_fz)) (hC []) (X := e2x_86) rfl 0 ck_a205_e
/-! a206 X5_choose -/
def as_a206 : List ev_V := [(2, 47, 0), (11, 2147483648, 2147483667), (11, 2147483648, 2147483656), (11, 2147483648, 2147483903)]
def E_a206 : e2_E := [(2147483648, 2147583648, 0, 0)]
def an867 : e2_Q2 := (an583, an26)
def an868 : e2_Q3 := (an24, an867)
def an869 : e2_Q4 := (an21, an868)
def an870 : e2_Q5 := (an14, an869)
def an871 : e2_Q5 := (an854, an60)
def an872 : e2_Q6 := (an870, an871)
def an873 : e2_Q4 := (an100, an831)
def an874 : e2_Q5 := (an873, an123)
def an875 : e2_Q6 := (an342, an874)
def an876 : e2_Q7 := (an872, an875)
def an877 : e2_Q4 := (an164, an302)
def an878 : e2_Q5 := (an877, an187)
def an879 : e2_Q6 := (an157, an878)
def an880 : e2_Q2 := (an583, an232)
def an881 : e2_Q3 := (an230, an880)
def an882 : e2_Q4 := (an227, an881)
def an883 : e2_Q5 := (an882, an322)
def an884 : e2_Q6 := (an346, an883)
def an885 : e2_Q7 := (an879, an884)
def an886 : e2_Q8 := (an876, an885)
noncomputable def f_a206 : ev_H := (an886 : e2_Q8)
noncomputable def q_a206_0 : ev_H := (an886 : e2_Q8)
noncomputable def rs_a206 : e2_Rs := [((9, 0, 0), q_a206_0)]
noncomputable def s_a206 : e2_Sm := (93, as_a206, E_a206, f_a206, rs_a206)
noncomputable def S_a206 : List e2_Sm := []
noncomputable def I_a206 : List e2_In := [(159, 2, e2x_159)]
set_option maxRecDepth 1000000 in
theorem co_a206 : e2_okSB E_a206.length as_a206 f_a206 rs_a206 = true := by decide +kernel
def al_a206_0 : List ev_V := [(2, 47, 0), (11, 2147483648, 2147483667), (11, 2147483648, 2147483656), (11, 2147483648, 2147483903), (11, 0, 2148483648), (11, 2147483647, 2147483655), (1, 1, 4294967296)]
def E_a206_0 : e2_E := [(2147483648, 2147583648, 0, 0), (2147483648, 2147483656, 1, 0)]
noncomputable def h_a206_0 : ev_H := (an886 : e2_Q8)
noncomputable def cl_a206_e : List (Nat × e2_S) := [(9, e2_cutL (al_a206_0.set 6 (11, 2147483648, 2147483656)) 1 (E_a206_0.take 1) h_a206_0)]
set_option maxRecDepth 1000000 in
theorem ck_a206_e : e2_run (e2_cal S_a206 I_a206 4000 1) (e2_fin rs_a206) e2x_93 (e2_bpL cl_a206_e) (e2_cutA cl_a206_e) 4000 (e2_seek e2x_93 0) (e2_al 7 as_a206) [] E_a206 f_a206 = true := by decide +kernel
noncomputable def cl_a206_0 : List (Nat × e2_S) := [(9, e2_cutL (al_a206_0.set 6 (13, 9, 2147483656)) 1 (E_a206_0.take 1) h_a206_0)]
set_option maxRecDepth 1000000 in
theorem ck_a206_0 : e2_runM (e2_cal S_a206 I_a206 4000 1) (e2_fin rs_a206) e2x_93 (e2_bpL cl_a206_0) (e2_cutA cl_a206_0) 4000 (e2_seek e2x_93 9) al_a206_0 [] E_a206_0 h_a206_0 = true := by decide +kernel
set_option maxRecDepth 1000000 in
theorem ci_a206_0 : e2_idl 1 (al_a206_0.set 6 (9, 0, 0)) = true := by decide +kernel
set_option maxRecDepth 1000000 in
theorem cj_a206_0 : e2_idh 1 8 h_a206_0 = true := by decide +kernel
theorem cs_a206 (hen : en_ok) (l : Launch) : e2_smOk l 2 s_a206 := by
  refine e2_conG (H := 0) (n := 1) (C := evd_93) (S := S_a206) (I := I_a206) (fuel := 4000) hen ei_93 e2_fz (e2_fa ein_159 e2_fz) (by decide) co_a206 fun M d _ hC hcall p e R s m args below meth c Q D cA A ads r0 ha hl0 => ?_
  have L_0 : e2_gdM M p l e R s m args below meth c Q D cA A ads r0 9 al_a206_0 [] E_a206_0 h_a206_0 := by
    refine e2_indL (u := 1) (j := 6) (lo := 2147483648) (hi := 2147483656) (b := 1) (dd := 0) hl0 (by decide) rfl rfl (Or.inr ⟨rfl, rfl⟩) rfl ci_a206_0 cj_a206_0 ?_
    intro r_0 k_0 hk_0 hp_0 hs_0 hn_0
    have hl_0 : r_0.length ≤ 2 := hs_0.len rfl
    have ha_0 := ha.ext hp_0
    exact e2_fromM hen ha_0 hcall (e2_cutA_ok (e2_fa (fun al st E h hc => hn_0 al st E h hc) e2_fz)) (hC []) (X := e2x_93) rfl 9 ck_a206_0
  have EN_0 := e2_entL (u := 1) (j := 6) (lo := 2147483648) (hi := 2147483656) hl0 rfl rfl rfl ci_a206_0 cj_a206_0 L_0
  exact e2_from hen ha hcall (e2_cutA_ok (e2_fa (fun al st E h hc => EN_0 al st E h hc) e2_fz)) (hC []) (X := e2x_93) rfl 0 ck_a206_e
/-! a207 X5_settle -/
def as_a207 : List ev_V := [(2, 47, 0), (11, 2147483648, 2147483667)]
def E_a207 : e2_E := [(2147483648, 2147583648, 0, 0)]
def an887 : e2_Q5 := (an805, an869)
def an888 : e2_Q6 := (an887, an871)
def an889 : e2_Q2 := (an583, an79)
def an890 : e2_Q3 := (an889, an83)
def an891 : e2_Q4 := (an890, an91)
def an892 : e2_Q5 := (an270, an891)
def an893 : e2_Q6 := (an892, an833)
def an894 : e2_Q7 := (an888, an893)
def an895 : e2_Q2 := (an583, an143)
def an896 : e2_Q3 := (an895, an147)
def an897 : e2_Q4 := (an896, an155)
def an898 : e2_Q5 := (an712, an897)
def an899 : e2_Q4 := (an815, an302)
def an900 : e2_Q5 := (an899, an187)
def an901 : e2_Q6 := (an898, an900)
def an902 : e2_Q5 := (an311, an219)
def an903 : e2_Q6 := (an902, an883)
def an904 : e2_Q7 := (an901, an903)
def an905 : e2_Q8 := (an894, an904)
noncomputable def f_a207 : ev_H := (an905 : e2_Q8)
noncomputable def q_a207_0 : ev_H := (an905 : e2_Q8)
noncomputable def rs_a207 : e2_Rs := [((9, 0, 0), q_a207_0)]
noncomputable def s_a207 : e2_Sm := (91, as_a207, E_a207, f_a207, rs_a207)
noncomputable def S_a207 : List e2_Sm := [s_a206]
noncomputable def I_a207 : List e2_In := [(90, 5, e2x_90), (92, 4, e2x_92), (121, 5, e2x_121), (159, 2, e2x_159)]
set_option maxRecDepth 1000000 in
theorem co_a207 : e2_okSB E_a207.length as_a207 f_a207 rs_a207 = true := by decide +kernel
def al_a207_0 : List ev_V := [(2, 47, 0), (11, 2147483648, 2147483667), (11, 2147483648, 2147483903), (11, 0, 4294967295), (1, 1, 4294967296)]
def E_a207_0 : e2_E := [(2147483648, 2147583648, 0, 0), (2147483648, 2147483656, 1, 0)]
noncomputable def h_a207_0 : ev_H := (an905 : e2_Q8)
def al_a207_1 : List ev_V := [(2, 47, 0), (11, 2147483648, 2147483667), (11, 2147483648, 2147483903), (11, 0, 4294967295), (1, 1, 4294967296)]
def E_a207_1 : e2_E := [(2147483648, 2147583648, 0, 0), (2147483648, 2147483656, 1, 0)]
noncomputable def h_a207_1 : ev_H := (an905 : e2_Q8)
noncomputable def cl_a207_e : List (Nat × e2_S) := [(40, e2_cutL (al_a207_1.set 4 (11, 2147483648, 2147483656)) 1 (E_a207_1.take 1) h_a207_1)]
set_option maxRecDepth 1000000 in
theorem ck_a207_e : e2_run (e2_cal S_a207 I_a207 4000 2) (e2_fin rs_a207) e2x_91 (e2_bpL cl_a207_e) (e2_cutA cl_a207_e) 4000 (e2_seek e2x_91 0) (e2_al 5 as_a207) [] E_a207 f_a207 = true := by decide +kernel
noncomputable def cl_a207_0 : List (Nat × e2_S) := [(123, e2_cutL (al_a207_0.set 4 (13, 9, 2147483656)) 1 (E_a207_0.take 1) h_a207_0)]
set_option maxRecDepth 1000000 in
theorem ck_a207_0 : e2_runM (e2_cal S_a207 I_a207 4000 2) (e2_fin rs_a207) e2x_91 (e2_bpL cl_a207_0) (e2_cutA cl_a207_0) 4000 (e2_seek e2x_91 123) al_a207_0 [] E_a207_0 h_a207_0 = true := by decide +kernel
set_option maxRecDepth 1000000 in
theorem ci_a207_0 : e2_idl 1 (al_a207_0.set 4 (9, 0, 0)) = true := by decide +kernel
set_option maxRecDepth 1000000 in
theorem cj_a207_0 : e2_idh 1 8 h_a207_0 = true := by decide +kernel
noncomputable def cl_a207_1 : List (Nat × e2_S) := [(123, e2_cutL (al_a207_0.set 4 (11, 2147483648, 2147483656)) 1 (E_a207_0.take 1) h_a207_0),
  (40, e2_cutL (al_a207_1.set 4 (13, 9, 2147483656)) 1 (E_a207_1.take 1) h_a207_1)]
set_option maxRecDepth 1000000 in
theorem ck_a207_1 : e2_runM (e2_cal S_a207 I_a207 4000 2) (e2_fin rs_a207) e2x_91 (e2_bpL cl_a207_1) (e2_cutA cl_a207_1) 4000 (e2_seek e2x_91 40) al_a207_1 [] E_a207_1 h_a207_1 = true := by decide +kernel
set_option maxRecDepth 1000000 in
theorem ci_a207_1 : e2_idl 1 (al_a207_1.set 4 (9, 0, 0)) = true := by decide +kernel
set_option maxRecDepth 1000000 in
theorem cj_a207_1 : e2_idh 1 8 h_a207_1 = true := by decide +kernel
theorem cs_a207 (hen : en_ok) (l : Launch) : e2_smOk l 5 s_a207 := by
  refine e2_conG (H := 2) (n := 2) (C := evd_91) (S := S_a207) (I := I_a207) (fuel := 4000) hen ei_91 (e2_fa (cs_a206 hen l) e2_fz) (e2_fa ein_90 (e2_fa ein_92 (e2_fa ein_121 (e2_fa ein_159 e2_fz)))) (by decide) co_a207 fun M d _ hC hcall p e R s m args below meth c Q D cA A ads r0 ha hl0 => ?_
  have L_0 : e2_gdM M p l e R s m args below meth c Q D cA A ads r0 123 al_a207_0 [] E_a207_0 h_a207_0 := by
    refine e2_indL (u := 1) (j := 4) (lo := 2147483648) (hi := 2147483656) (b := 1) (dd := 0) hl0 (by decide) rfl rfl (Or.inr ⟨rfl, rfl⟩) rfl ci_a207_0 cj_a207_0 ?_
    intro r_0 k_0 hk_0 hp_0 hs_0 hn_0
    have hl_0 : r_0.length ≤ 2 := hs_0.len rfl
    have ha_0 := ha.ext hp_0
    exact e2_fromM hen ha_0 hcall (e2_cutA_ok (e2_fa (fun al st E h hc => hn_0 al st E h hc) e2_fz)) (hC [56, 58, 81]) (X := e2x_91) rfl 123 ck_a207_0
  have EN_0 := e2_entL (u := 1) (j := 4) (lo := 2147483648) (hi := 2147483656) hl0 rfl rfl rfl ci_a207_0 cj_a207_0 L_0
  have L_1 : e2_gdM M p l e R s m args below meth c Q D cA A ads r0 40 al_a207_1 [] E_a207_1 h_a207_1 := by
    refine e2_indL (u := 1) (j := 4) (lo := 2147483648) (hi := 2147483656) (b := 1) (dd := 0) hl0 (by decide) rfl rfl (Or.inr ⟨rfl, rfl⟩) rfl ci_a207_1 cj_a207_1 ?_
    intro r_1 k_1 hk_1 hp_1 hs_1 hn_1
    have hl_1 : r_1.length ≤ 2 := hs_1.len rfl
    have ha_1 := ha.ext hp_1
    exact e2_fromM hen ha_1 hcall (e2_cutA_ok (e2_fa (fun al st E h hc => (EN_0 al st E h hc).ext hp_1) (e2_fa (fun al st E h hc => hn_1 al st E h hc) e2_fz))) (hC [56, 58, 81]) (X := e2x_91) rfl 40 ck_a207_1
  have EN_1 := e2_entL (u := 1) (j := 4) (lo := 2147483648) (hi := 2147483656) hl0 rfl rfl rfl ci_a207_1 cj_a207_1 L_1
  exact e2_from hen ha hcall (e2_cutA_ok (e2_fa (fun al st E h hc => EN_1 al st E h hc) e2_fz)) (hC [56, 58, 81]) (X := e2x_91) rfl 0 ck_a207_e
/-! a208 X5_read -/
def as_a208 : List ev_V := [(2, 47, 0), (11, 0, 4294967295)]
def E_a208 : e2_E := [(2147483648, 2147583648, 0, 0)]
noncomputable def f_a208 : ev_H := (an905 : e2_Q8)
noncomputable def q_a208_0 : ev_H := (an905 : e2_Q8)
noncomputable def rs_a208 : e2_Rs := [((11, 0, 4294967295), q_a208_0)]
noncomputable def s_a208 : e2_Sm := (88, as_a208, E_a208, f_a208, rs_a208)
noncomputable def S_a208 : List e2_Sm := [s_a207]
noncomputable def I_a208 : List e2_In := [(90, 5, e2x_90)]
set_option maxRecDepth 1000000 in
theorem co_a208 : e2_okSB E_a208.length as_a208 f_a208 rs_a208 = true := by decide +kernel
def al_a208_0 : List ev_V := [(2, 47, 0), (11, 0, 4294967295), (11, 0, 4294967295), (1, 1, 4294967296)]
def E_a208_0 : e2_E := [(2147483648, 2147583648, 0, 0), (2147483647, 2147483667, 1, 0)]
noncomputable def h_a208_0 : ev_H := (an905 : e2_Q8)
noncomputable def cl_a208_e : List (Nat × e2_S) := [(38, e2_cutL (al_a208_0.set 3 (11, 2147483647, 2147483667)) 1 (E_a208_0.take 1) h_a208_0)]
set_option maxRecDepth 1000000 in
theorem ck_a208_e : e2_run (e2_cal S_a208 I_a208 4000 1) (e2_fin rs_a208) e2x_88 (e2_bpL cl_a208_e) (e2_cutA cl_a208_e) 4000 (e2_seek e2x_88 0) (e2_al 4 as_a208) [] E_a208 f_a208 = true := by decide +kernel
noncomputable def cl_a208_0 : List (Nat × e2_S) := [(38, e2_cutL (al_a208_0.set 3 (12, 9, 2147483647)) 1 (E_a208_0.take 1) h_a208_0)]
set_option maxRecDepth 1000000 in
theorem ck_a208_0 : e2_runM (e2_cal S_a208 I_a208 4000 1) (e2_fin rs_a208) e2x_88 (e2_bpL cl_a208_0) (e2_cutA cl_a208_0) 4000 (e2_seek e2x_88 38) al_a208_0 [] E_a208_0 h_a208_0 = true := by decide +kernel
set_option maxRecDepth 1000000 in
theorem ci_a208_0 : e2_idl 1 (al_a208_0.set 3 (9, 0, 0)) = true := by decide +kernel
set_option maxRecDepth 1000000 in
theorem cj_a208_0 : e2_idh 1 8 h_a208_0 = true := by decide +kernel
theorem cs_a208 (hen : en_ok) (l : Launch) : e2_smOk l 7 s_a208 := by
  refine e2_conG (H := 5) (n := 1) (C := evd_88) (S := S_a208) (I := I_a208) (fuel := 4000) hen ei_88 (e2_fa (cs_a207 hen l) e2_fz) (e2_fa ein_90 e2_fz) (by decide) co_a208 fun M d _ hC hcall p e R s m args below meth c Q D cA A ads r0 ha hl0 => ?_
  have L_0 : e2_gdM M p l e R s m args below meth c Q D cA A ads r0 38 al_a208_0 [] E_a208_0 h_a208_0 := by
    refine e2_indD (u := 1) (j := 3) (lo := 2147483647) (hi := 2147483667) hl0 (by decide) rfl rfl rfl ci_a208_0 cj_a208_0 ?_
    intro r_0 k_0 hk_0 hp_0 hs_0 hn_0
    have hl_0 : r_0.length ≤ 2 := hs_0.len rfl
    have ha_0 := ha.ext hp_0
    exact e2_fromM hen ha_0 hcall (e2_cutA_ok (e2_fa (fun al st E h hc => hn_0 al st E h hc) e2_fz)) (hC []) (X := e2x_88) rfl 38 ck_a208_0
  have EN_0 := e2_entL (u := 1) (j := 3) (lo := 2147483647) (hi := 2147483667) hl0 rfl rfl rfl ci_a208_0 cj_a208_0 L_0
  exact e2_from hen ha hcall (e2_cutA_ok (e2_fa (fun al st E h hc => EN_0 al st E h hc) e2_fz)) (hC []) (X := e2x_88) rfl 0 ck_a208_e
/-! a209 X5_gainOf -/
def as_a209 : List ev_V := [(2, 47, 0), (11, 2147483648, 2147483651)]
def E_a209 : e2_E := [(2147483648, 2147583648, 0, 0)]
def an906 : e2_Q6 := (an627, an61)
def an907 : e2_Q5 := (an341, an273)
def an908 : e2_Q6 := (an907, an124)
def an909 : e2_Q7 := (an906, an908)
def an910 : e2_Q6 := (an346, an845)
def an911 : e2_Q7 := (an714, an910)
def an912 : e2_Q8 := (an909, an911)
noncomputable def f_a209 : ev_H := (an912 : e2_Q8)
noncomputable def q_a209_0 : ev_H := (an912 : e2_Q8)
noncomputable def rs_a209 : e2_Rs := [((11, 0, 4294967295), q_a209_0)]
noncomputable def s_a209 : e2_Sm := (95, as_a209, E_a209, f_a209, rs_a209)
noncomputable def S_a209 : List e2_Sm := []
noncomputable def I_a209 : List e2_In := []
set_option maxRecDepth 1000000 in
theorem co_a209 : e2_okSB E_a209.length as_a209 f_a209 rs_a209 = true := by decide +kernel
def al_a209_0 : List ev_V := [(2, 47, 0), (11, 2147483648, 2147483651), (11, 0, 4294967295), (1, 1, 4294967296)]
def E_a209_0 : e2_E := [(2147483648, 2147583648, 0, 0), (2147483648, 2147483668, 1, 0)]
noncomputable def h_a209_0 : ev_H := (an912 : e2_Q8)
noncomputable def cl_a209_e : List (Nat × e2_S) := [(4, e2_cutL (al_a209_0.set 3 (11, 2147483648, 2147483668)) 1 (E_a209_0.take 1) h_a209_0)]
set_option maxRecDepth 1000000 in
theorem ck_a209_e : e2_run (e2_cal S_a209 I_a209 4000 0) (e2_fin rs_a209) e2x_95 (e2_bpL cl_a209_e) (e2_cutA cl_a209_e) 4000 (e2_seek e2x_95 0) (e2_al 4 as_a209) [] E_a209 f_a209 = true := by decide +kernel
noncomputable def cl_a209_0 : List (Nat × e2_S) := [(4, e2_cutL (al_a209_0.set 3 (13, 9, 2147483668)) 1 (E_a209_0.take 1) h_a209_0)]
set_option maxRecDepth 1000000 in
theorem ck_a209_0 : e2_runM (e2_cal S_a209 I_a209 4000 0) (e2_fin rs_a209) e2x_95 (e2_bpL cl_a209_0) (e2_cutA cl_a209_0) 4000 (e2_seek e2x_95 4) al_a209_0 [] E_a209_0 h_a209_0 = true := by decide +kernel
set_option maxRecDepth 1000000 in
theorem ci_a209_0 : e2_idl 1 (al_a209_0.set 3 (9, 0, 0)) = true := by decide +kernel
set_option maxRecDepth 1000000 in
theorem cj_a209_0 : e2_idh 1 8 h_a209_0 = true := by decide +kernel
theorem cs_a209 (hen : en_ok) (l : Launch) : e2_smOk l 1 s_a209 := by
  refine e2_conG (H := 0) (n := 0) (C := evd_95) (S := S_a209) (I := I_a209) (fuel := 4000) hen ei_95 e2_fz e2_fz (by decide) co_a209 fun M d _ hC hcall p e R s m args below meth c Q D cA A ads r0 ha hl0 => ?_
  have L_0 : e2_gdM M p l e R s m args below meth c Q D cA A ads r0 4 al_a209_0 [] E_a209_0 h_a209_0 := by
    refine e2_indL (u := 1) (j := 3) (lo := 2147483648) (hi := 2147483668) (b := 1) (dd := 0) hl0 (by decide) rfl rfl (Or.inr ⟨rfl, rfl⟩) rfl ci_a209_0 cj_a209_0 ?_
    intro r_0 k_0 hk_0 hp_0 hs_0 hn_0
    have hl_0 : r_0.length ≤ 2 := hs_0.len rfl
    have ha_0 := ha.ext hp_0
    exact e2_fromM hen ha_0 hcall (e2_cutA_ok (e2_fa (fun al st E h hc => hn_0 al st E h hc) e2_fz)) (hC []) (X := e2x_95) rfl 4 ck_a209_0
  have EN_0 := e2_entL (u := 1) (j := 3) (lo := 2147483648) (hi := 2147483668) hl0 rfl rfl rfl ci_a209_0 cj_a209_0 L_0
  exact e2_from hen ha hcall (e2_cutA_ok (e2_fa (fun al st E h hc => EN_0 al st E h hc) e2_fz)) (hC []) (X := e2x_95) rfl 0 ck_a209_e
/-! a210 X5_takesAway -/
def as_a210 : List ev_V := [(2, 47, 0)]
def E_a210 : e2_E := [(2147483648, 2147583648, 0, 0)]
def an913 : e2_Q6 := (an346, an819)
def an914 : e2_Q7 := (an714, an913)
def an915 : e2_Q8 := (an909, an914)
noncomputable def f_a210 : ev_H := (an915 : e2_Q8)
noncomputable def q_a210_0 : ev_H := (an915 : e2_Q8)
noncomputable def rs_a210 : e2_Rs := [((11, 2147483648, 2147483649), q_a210_0)]
noncomputable def s_a210 : e2_Sm := (96, as_a210, E_a210, f_a210, rs_a210)
noncomputable def S_a210 : List e2_Sm := []
noncomputable def I_a210 : List e2_In := []
set_option maxRecDepth 1000000 in
theorem co_a210 : e2_okSB E_a210.length as_a210 f_a210 rs_a210 = true := by decide +kernel
def al_a210_0 : List ev_V := [(2, 47, 0), (1, 1, 4294967296)]
def E_a210_0 : e2_E := [(2147483648, 2147583648, 0, 0), (2147483648, 2147483668, 1, 0)]
noncomputable def h_a210_0 : ev_H := (an915 : e2_Q8)
noncomputable def cl_a210_e : List (Nat × e2_S) := [(2, e2_cutL (al_a210_0.set 1 (11, 2147483648, 2147483668)) 1 (E_a210_0.take 1) h_a210_0)]
set_option maxRecDepth 1000000 in
theorem ck_a210_e : e2_run (e2_cal S_a210 I_a210 4000 0) (e2_fin rs_a210) e2x_96 (e2_bpL cl_a210_e) (e2_cutA cl_a210_e) 4000 (e2_seek e2x_96 0) (e2_al 2 as_a210) [] E_a210 f_a210 = true := by decide +kernel
noncomputable def cl_a210_0 : List (Nat × e2_S) := [(2, e2_cutL (al_a210_0.set 1 (13, 9, 2147483668)) 1 (E_a210_0.take 1) h_a210_0)]
set_option maxRecDepth 1000000 in
theorem ck_a210_0 : e2_runM (e2_cal S_a210 I_a210 4000 0) (e2_fin rs_a210) e2x_96 (e2_bpL cl_a210_0) (e2_cutA cl_a210_0) 4000 (e2_seek e2x_96 2) al_a210_0 [] E_a210_0 h_a210_0 = true := by decide +kernel
set_option maxRecDepth 1000000 in
theorem ci_a210_0 : e2_idl 1 (al_a210_0.set 1 (9, 0, 0)) = true := by decide +kernel
set_option maxRecDepth 1000000 in
theorem cj_a210_0 : e2_idh 1 8 h_a210_0 = true := by decide +kernel
theorem cs_a210 (hen : en_ok) (l : Launch) : e2_smOk l 1 s_a210 := by
  refine e2_conG (H := 0) (n := 0) (C := evd_96) (S := S_a210) (I := I_a210) (fuel := 4000) hen ei_96 e2_fz e2_fz (by decide) co_a210 fun M d _ hC hcall p e R s m args below meth c Q D cA A ads r0 ha hl0 => ?_
  have L_0 : e2_gdM M p l e R s m args below meth c Q D cA A ads r0 2 al_a210_0 [] E_a210_0 h_a210_0 := by
    refine e2_indL (u := 1) (j := 1) (lo := 2147483648) (hi := 2147483668) (b := 1) (dd := 0) hl0 (by decide) rfl rfl (Or.inr ⟨rfl, rfl⟩) rfl ci_a210_0 cj_a210_0 ?_
    intro r_0 k_0 hk_0 hp_0 hs_0 hn_0
    have hl_0 : r_0.length ≤ 2 := hs_0.len rfl
    have ha_0 := ha.ext hp_0
    exact e2_fromM hen ha_0 hcall (e2_cutA_ok (e2_fa (fun al st E h hc => hn_0 al st E h hc) e2_fz)) (hC []) (X := e2x_96) rfl 2 ck_a210_0
  have EN_0 := e2_entL (u := 1) (j := 1) (lo := 2147483648) (hi := 2147483668) hl0 rfl rfl rfl ci_a210_0 cj_a210_0 L_0
  exact e2_from hen ha hcall (e2_cutA_ok (e2_fa (fun al st E h hc => EN_0 al st E h hc) e2_fz)) (hC []) (X := e2x_96) rfl 0 ck_a210_e
/-! a211 X5_cellsOf -/
def as_a211 : List ev_V := [(2, 47, 0), (11, 2147483648, 2147483655)]
def E_a211 : e2_E := [(2147483648, 2147583648, 0, 0)]
def an916 : e2_Q7 := (an62, an908)
def an917 : e2_Q5 := (an141, an295)
def an918 : e2_Q6 := (an917, an188)
def an919 : e2_Q7 := (an918, an913)
def an920 : e2_Q8 := (an916, an919)
noncomputable def f_a211 : ev_H := (an920 : e2_Q8)
noncomputable def q_a211_0 : ev_H := (an920 : e2_Q8)
noncomputable def rs_a211 : e2_Rs := [((11, 0, 4294967295), q_a211_0)]
noncomputable def s_a211 : e2_Sm := (97, as_a211, E_a211, f_a211, rs_a211)
noncomputable def S_a211 : List e2_Sm := []
noncomputable def I_a211 : List e2_In := []
set_option maxRecDepth 1000000 in
theorem co_a211 : e2_okSB E_a211.length as_a211 f_a211 rs_a211 = true := by decide +kernel
def al_a211_0 : List ev_V := [(2, 47, 0), (11, 2147483648, 2147483655), (11, 0, 4294967295), (1, 1, 4294967296)]
def E_a211_0 : e2_E := [(2147483648, 2147583648, 0, 0), (2147483648, 2147483668, 1, 0)]
noncomputable def h_a211_0 : ev_H := (an920 : e2_Q8)
noncomputable def cl_a211_e : List (Nat × e2_S) := [(4, e2_cutL (al_a211_0.set 3 (11, 2147483648, 2147483668)) 1 (E_a211_0.take 1) h_a211_0)]
set_option maxRecDepth 1000000 in
theorem ck_a211_e : e2_run (e2_cal S_a211 I_a211 4000 0) (e2_fin rs_a211) e2x_97 (e2_bpL cl_a211_e) (e2_cutA cl_a211_e) 4000 (e2_seek e2x_97 0) (e2_al 4 as_a211) [] E_a211 f_a211 = true := by decide +kernel
noncomputable def cl_a211_0 : List (Nat × e2_S) := [(4, e2_cutL (al_a211_0.set 3 (13, 9, 2147483668)) 1 (E_a211_0.take 1) h_a211_0)]
set_option maxRecDepth 1000000 in
theorem ck_a211_0 : e2_runM (e2_cal S_a211 I_a211 4000 0) (e2_fin rs_a211) e2x_97 (e2_bpL cl_a211_0) (e2_cutA cl_a211_0) 4000 (e2_seek e2x_97 4) al_a211_0 [] E_a211_0 h_a211_0 = true := by decide +kernel
set_option maxRecDepth 1000000 in
theorem ci_a211_0 : e2_idl 1 (al_a211_0.set 3 (9, 0, 0)) = true := by decide +kernel
set_option maxRecDepth 1000000 in
theorem cj_a211_0 : e2_idh 1 8 h_a211_0 = true := by decide +kernel
theorem cs_a211 (hen : en_ok) (l : Launch) : e2_smOk l 1 s_a211 := by
  refine e2_conG (H := 0) (n := 0) (C := evd_97) (S := S_a211) (I := I_a211) (fuel := 4000) hen ei_97 e2_fz e2_fz (by decide) co_a211 fun M d _ hC hcall p e R s m args below meth c Q D cA A ads r0 ha hl0 => ?_
  have L_0 : e2_gdM M p l e R s m args below meth c Q D cA A ads r0 4 al_a211_0 [] E_a211_0 h_a211_0 := by
    refine e2_indL (u := 1) (j := 3) (lo := 2147483648) (hi := 2147483668) (b := 1) (dd := 0) hl0 (by decide) rfl rfl (Or.inr ⟨rfl, rfl⟩) rfl ci_a211_0 cj_a211_0 ?_
    intro r_0 k_0 hk_0 hp_0 hs_0 hn_0
    have hl_0 : r_0.length ≤ 2 := hs_0.len rfl
    have ha_0 := ha.ext hp_0
    exact e2_fromM hen ha_0 hcall (e2_cutA_ok (e2_fa (fun al st E h hc => hn_0 al st E h hc) e2_fz)) (hC []) (X := e2x_97) rfl 4 ck_a211_0
  have EN_0 := e2_entL (u := 1) (j := 3) (lo := 2147483648) (hi := 2147483668) hl0 rfl rfl rfl ci_a211_0 cj_a211_0 L_0
  exact e2_from hen ha hcall (e2_cutA_ok (e2_fa (fun al st E h hc => EN_0 al st E h hc) e2_fz)) (hC []) (X := e2x_97) rfl 0 ck_a211_e
/-! a212 X5_signAt -/
def as_a212 : List ev_V := [(2, 47, 0), (11, 2147483648, 2147483667)]
def E_a212 : e2_E := [(2147483648, 2147583648, 0, 0)]
noncomputable def f_a212 : ev_H := (an920 : e2_Q8)
noncomputable def q_a212_0 : ev_H := (an920 : e2_Q8)
noncomputable def rs_a212 : e2_Rs := [((11, 2147483647, 2147483655), q_a212_0)]
noncomputable def s_a212 : e2_Sm := (98, as_a212, E_a212, f_a212, rs_a212)
noncomputable def S_a212 : List e2_Sm := []
noncomputable def I_a212 : List e2_In := []
set_option maxRecDepth 1000000 in
theorem co_a212 : e2_okSB E_a212.length as_a212 f_a212 rs_a212 = true := by decide +kernel
def al_a212_0 : List ev_V := [(2, 47, 0), (11, 2147483648, 2147483667), (1, 1, 4294967296)]
def E_a212_0 : e2_E := [(2147483648, 2147583648, 0, 0), (2147483648, 2147483668, 1, 0)]
noncomputable def h_a212_0 : ev_H := (an920 : e2_Q8)
noncomputable def cl_a212_e : List (Nat × e2_S) := [(2, e2_cutL (al_a212_0.set 2 (11, 2147483648, 2147483668)) 1 (E_a212_0.take 1) h_a212_0)]
set_option maxRecDepth 1000000 in
theorem ck_a212_e : e2_run (e2_cal S_a212 I_a212 4000 0) (e2_fin rs_a212) e2x_98 (e2_bpL cl_a212_e) (e2_cutA cl_a212_e) 4000 (e2_seek e2x_98 0) (e2_al 3 as_a212) [] E_a212 f_a212 = true := by decide +kernel
noncomputable def cl_a212_0 : List (Nat × e2_S) := [(2, e2_cutL (al_a212_0.set 2 (13, 9, 2147483668)) 1 (E_a212_0.take 1) h_a212_0)]
set_option maxRecDepth 1000000 in
theorem ck_a212_0 : e2_runM (e2_cal S_a212 I_a212 4000 0) (e2_fin rs_a212) e2x_98 (e2_bpL cl_a212_0) (e2_cutA cl_a212_0) 4000 (e2_seek e2x_98 2) al_a212_0 [] E_a212_0 h_a212_0 = true := by decide +kernel
set_option maxRecDepth 1000000 in
theorem ci_a212_0 : e2_idl 1 (al_a212_0.set 2 (9, 0, 0)) = true := by decide +kernel
set_option maxRecDepth 1000000 in
theorem cj_a212_0 : e2_idh 1 8 h_a212_0 = true := by decide +kernel
theorem cs_a212 (hen : en_ok) (l : Launch) : e2_smOk l 1 s_a212 := by
  refine e2_conG (H := 0) (n := 0) (C := evd_98) (S := S_a212) (I := I_a212) (fuel := 4000) hen ei_98 e2_fz e2_fz (by decide) co_a212 fun M d _ hC hcall p e R s m args below meth c Q D cA A ads r0 ha hl0 => ?_
  have L_0 : e2_gdM M p l e R s m args below meth c Q D cA A ads r0 2 al_a212_0 [] E_a212_0 h_a212_0 := by
    refine e2_indL (u := 1) (j := 2) (lo := 2147483648) (hi := 2147483668) (b := 1) (dd := 0) hl0 (by decide) rfl rfl (Or.inr ⟨rfl, rfl⟩) rfl ci_a212_0 cj_a212_0 ?_
    intro r_0 k_0 hk_0 hp_0 hs_0 hn_0
    have hl_0 : r_0.length ≤ 2 := hs_0.len rfl
    have ha_0 := ha.ext hp_0
    exact e2_fromM hen ha_0 hcall (e2_cutA_ok (e2_fa (fun al st E h hc => hn_0 al st E h hc) e2_fz)) (hC []) (X := e2x_98) rfl 2 ck_a212_0
  have EN_0 := e2_entL (u := 1) (j := 2) (lo := 2147483648) (hi := 2147483668) hl0 rfl rfl rfl ci_a212_0 cj_a212_0 L_0
  exact e2_from hen ha hcall (e2_cutA_ok (e2_fa (fun al st E h hc => EN_0 al st E h hc) e2_fz)) (hC []) (X := e2x_98) rfl 0 ck_a212_e
/-! a213 X6_turnYear -/
def as_a213 : List ev_V := [(2, 36, 0), (2, 1, 0)]
def E_a213 : e2_E := [(2147483648, 2147583648, 0, 0)]
def an921 : e2_Q4 := (an823, an44)
def an922 : e2_Q5 := (an921, an60)
def an923 : e2_Q6 := (an379, an922)
def an924 : e2_Q2 := (an668, an98)
def an925 : e2_Q3 := (an96, an924)
def an926 : e2_Q4 := (an925, an107)
def an927 : e2_Q5 := (an926, an384)
def an928 : e2_Q6 := (an342, an927)
def an929 : e2_Q7 := (an923, an928)
def an930 : e2_Q7 := (an714, an395)
def an931 : e2_Q8 := (an929, an930)
noncomputable def f_a213 : ev_H := (an931 : e2_Q8)
noncomputable def q_a213_0 : ev_H := (an931 : e2_Q8)
noncomputable def rs_a213 : e2_Rs := [((9, 0, 0), q_a213_0)]
noncomputable def s_a213 : e2_Sm := (103, as_a213, E_a213, f_a213, rs_a213)
noncomputable def S_a213 : List e2_Sm := [s_a7]
noncomputable def I_a213 : List e2_In := [(101, 2, e2x_101), (159, 2, e2x_159)]
set_option maxRecDepth 1000000 in
theorem co_a213 : e2_okSB E_a213.length as_a213 f_a213 rs_a213 = true := by decide +kernel
def al_a213_0 : List ev_V := [(2, 36, 0), (2, 1, 0), (1, 1, 4294967296)]
def E_a213_0 : e2_E := [(2147483648, 2147583648, 0, 0), (2147483648, 2147483668, 1, 0)]
noncomputable def h_a213_0 : ev_H := (an931 : e2_Q8)
noncomputable def cl_a213_e : List (Nat × e2_S) := [(86, e2_cutL (al_a213_0.set 2 (11, 2147483648, 2147483668)) 1 (E_a213_0.take 1) h_a213_0)]
set_option maxRecDepth 1000000 in
theorem ck_a213_e : e2_run (e2_cal S_a213 I_a213 4000 1) (e2_fin rs_a213) e2x_103 (e2_bpL cl_a213_e) (e2_cutA cl_a213_e) 4000 (e2_seek e2x_103 0) (e2_al 3 as_a213) [] E_a213 f_a213 = true := by decide +kernel
noncomputable def cl_a213_0 : List (Nat × e2_S) := [(86, e2_cutL (al_a213_0.set 2 (13, 9, 2147483668)) 1 (E_a213_0.take 1) h_a213_0)]
set_option maxRecDepth 1000000 in
theorem ck_a213_0 : e2_runM (e2_cal S_a213 I_a213 4000 1) (e2_fin rs_a213) e2x_103 (e2_bpL cl_a213_0) (e2_cutA cl_a213_0) 4000 (e2_seek e2x_103 86) al_a213_0 [] E_a213_0 h_a213_0 = true := by decide +kernel
set_option maxRecDepth 1000000 in
theorem ci_a213_0 : e2_idl 1 (al_a213_0.set 2 (9, 0, 0)) = true := by decide +kernel
set_option maxRecDepth 1000000 in
theorem cj_a213_0 : e2_idh 1 8 h_a213_0 = true := by decide +kernel
theorem cs_a213 (hen : en_ok) (l : Launch) : e2_smOk l 4 s_a213 := by
  refine e2_conG (H := 2) (n := 1) (C := evd_103) (S := S_a213) (I := I_a213) (fuel := 4000) hen ei_103 (e2_fa (cs_a7 hen l) e2_fz) (e2_fa ein_101 (e2_fa ein_159 e2_fz)) (by decide) co_a213 fun M d _ hC hcall p e R s m args below meth c Q D cA A ads r0 ha hl0 => ?_
  have L_0 : e2_gdM M p l e R s m args below meth c Q D cA A ads r0 86 al_a213_0 [] E_a213_0 h_a213_0 := by
    refine e2_indL (u := 1) (j := 2) (lo := 2147483648) (hi := 2147483668) (b := 1) (dd := 0) hl0 (by decide) rfl rfl (Or.inr ⟨rfl, rfl⟩) rfl ci_a213_0 cj_a213_0 ?_
    intro r_0 k_0 hk_0 hp_0 hs_0 hn_0
    have hl_0 : r_0.length ≤ 2 := hs_0.len rfl
    have ha_0 := ha.ext hp_0
    exact e2_fromM hen ha_0 hcall (e2_cutA_ok (e2_fa (fun al st E h hc => hn_0 al st E h hc) e2_fz)) (hC []) (X := e2x_103) rfl 86 ck_a213_0
  have EN_0 := e2_entL (u := 1) (j := 2) (lo := 2147483648) (hi := 2147483668) hl0 rfl rfl rfl ci_a213_0 cj_a213_0 L_0
  exact e2_from hen ha hcall (e2_cutA_ok (e2_fa (fun al st E h hc => EN_0 al st E h hc) e2_fz)) (hC []) (X := e2x_103) rfl 0 ck_a213_e
/-! a214 X6_turnYear -/
def as_a214 : List ev_V := [(2, 40, 0), (2, 1, 0)]
def E_a214 : e2_E := [(2147483648, 2147583648, 0, 0)]
def an932 : e2_Q5 := (an378, an852)
def an933 : e2_Q6 := (an932, an61)
def an934 : e2_Q2 := (an668, an82)
def an935 : e2_Q3 := (an80, an934)
def an936 : e2_Q4 := (an935, an91)
def an937 : e2_Q5 := (an341, an936)
def an938 : e2_Q6 := (an937, an385)
def an939 : e2_Q7 := (an933, an938)
def an940 : e2_Q7 := (an714, an403)
def an941 : e2_Q8 := (an939, an940)
noncomputable def f_a214 : ev_H := (an941 : e2_Q8)
noncomputable def q_a214_0 : ev_H := (an941 : e2_Q8)
noncomputable def rs_a214 : e2_Rs := [((9, 0, 0), q_a214_0)]
noncomputable def s_a214 : e2_Sm := (103, as_a214, E_a214, f_a214, rs_a214)
noncomputable def S_a214 : List e2_Sm := [s_a8]
noncomputable def I_a214 : List e2_In := [(101, 2, e2x_101), (159, 2, e2x_159)]
set_option maxRecDepth 1000000 in
theorem co_a214 : e2_okSB E_a214.length as_a214 f_a214 rs_a214 = true := by decide +kernel
def al_a214_0 : List ev_V := [(2, 40, 0), (2, 1, 0), (1, 1, 4294967296)]
def E_a214_0 : e2_E := [(2147483648, 2147583648, 0, 0), (2147483648, 2147483668, 1, 0)]
noncomputable def h_a214_0 : ev_H := (an941 : e2_Q8)
noncomputable def cl_a214_e : List (Nat × e2_S) := [(86, e2_cutL (al_a214_0.set 2 (11, 2147483648, 2147483668)) 1 (E_a214_0.take 1) h_a214_0)]
set_option maxRecDepth 1000000 in
theorem ck_a214_e : e2_run (e2_cal S_a214 I_a214 4000 1) (e2_fin rs_a214) e2x_103 (e2_bpL cl_a214_e) (e2_cutA cl_a214_e) 4000 (e2_seek e2x_103 0) (e2_al 3 as_a214) [] E_a214 f_a214 = true := by decide +kernel
noncomputable def cl_a214_0 : List (Nat × e2_S) := [(86, e2_cutL (al_a214_0.set 2 (13, 9, 2147483668)) 1 (E_a214_0.take 1) h_a214_0)]
set_option maxRecDepth 1000000 in
theorem ck_a214_0 : e2_runM (e2_cal S_a214 I_a214 4000 1) (e2_fin rs_a214) e2x_103 (e2_bpL cl_a214_0) (e2_cutA cl_a214_0) 4000 (e2_seek e2x_103 86) al_a214_0 [] E_a214_0 h_a214_0 = true := by decide +kernel
set_option maxRecDepth 1000000 in
theorem ci_a214_0 : e2_idl 1 (al_a214_0.set 2 (9, 0, 0)) = true := by decide +kernel
set_option maxRecDepth 1000000 in
theorem cj_a214_0 : e2_idh 1 8 h_a214_0 = true := by decide +kernel
theorem cs_a214 (hen : en_ok) (l : Launch) : e2_smOk l 4 s_a214 := by
  refine e2_conG (H := 2) (n := 1) (C := evd_103) (S := S_a214) (I := I_a214) (fuel := 4000) hen ei_103 (e2_fa (cs_a8 hen l) e2_fz) (e2_fa ein_101 (e2_fa ein_159 e2_fz)) (by decide) co_a214 fun M d _ hC hcall p e R s m args below meth c Q D cA A ads r0 ha hl0 => ?_
  have L_0 : e2_gdM M p l e R s m args below meth c Q D cA A ads r0 86 al_a214_0 [] E_a214_0 h_a214_0 := by
    refine e2_indL (u := 1) (j := 2) (lo := 2147483648) (hi := 2147483668) (b := 1) (dd := 0) hl0 (by decide) rfl rfl (Or.inr ⟨rfl, rfl⟩) rfl ci_a214_0 cj_a214_0 ?_
    intro r_0 k_0 hk_0 hp_0 hs_0 hn_0
    have hl_0 : r_0.length ≤ 2 := hs_0.len rfl
    have ha_0 := ha.ext hp_0
    exact e2_fromM hen ha_0 hcall (e2_cutA_ok (e2_fa (fun al st E h hc => hn_0 al st E h hc) e2_fz)) (hC []) (X := e2x_103) rfl 86 ck_a214_0
  have EN_0 := e2_entL (u := 1) (j := 2) (lo := 2147483648) (hi := 2147483668) hl0 rfl rfl rfl ci_a214_0 cj_a214_0 L_0
  exact e2_from hen ha hcall (e2_cutA_ok (e2_fa (fun al st E h hc => EN_0 al st E h hc) e2_fz)) (hC []) (X := e2x_103) rfl 0 ck_a214_e
/-! a215 X7_putFour -/
def as_a215 : List ev_V := [(2, 34, 0), (11, 0, 4294967295)]
def E_a215 : e2_E := [(2147483648, 2147583648, 0, 0)]
noncomputable def f_a215 : ev_H := (an254 : e2_Q8)
noncomputable def q_a215_0 : ev_H := (an254 : e2_Q8)
noncomputable def rs_a215 : e2_Rs := [((9, 0, 0), q_a215_0)]
noncomputable def s_a215 : e2_Sm := (105, as_a215, E_a215, f_a215, rs_a215)
noncomputable def S_a215 : List e2_Sm := []
noncomputable def I_a215 : List e2_In := []
set_option maxRecDepth 1000000 in
theorem co_a215 : e2_okSB E_a215.length as_a215 f_a215 rs_a215 = true := by decide +kernel
def al_a215_0 : List ev_V := [(2, 34, 0), (11, 0, 4294967295), (1, 1, 4294967296)]
def E_a215_0 : e2_E := [(2147483648, 2147583648, 0, 0), (2147483640, 2147483672, 1, 0)]
noncomputable def h_a215_0 : ev_H := (an254 : e2_Q8)
noncomputable def cl_a215_e : List (Nat × e2_S) := [(3, e2_cutL (al_a215_0.set 2 (11, 2147483640, 2147483672)) 1 (E_a215_0.take 1) h_a215_0)]
set_option maxRecDepth 1000000 in
theorem ck_a215_e : e2_run (e2_cal S_a215 I_a215 4000 0) (e2_fin rs_a215) e2x_105 (e2_bpL cl_a215_e) (e2_cutA cl_a215_e) 4000 (e2_seek e2x_105 0) (e2_al 3 as_a215) [] E_a215 f_a215 = true := by decide +kernel
noncomputable def cl_a215_0 : List (Nat × e2_S) := [(3, e2_cutL (al_a215_0.set 2 (12, 9, 2147483640)) 1 (E_a215_0.take 1) h_a215_0)]
set_option maxRecDepth 1000000 in
theorem ck_a215_0 : e2_runM (e2_cal S_a215 I_a215 4000 0) (e2_fin rs_a215) e2x_105 (e2_bpL cl_a215_0) (e2_cutA cl_a215_0) 4000 (e2_seek e2x_105 3) al_a215_0 [] E_a215_0 h_a215_0 = true := by decide +kernel
set_option maxRecDepth 1000000 in
theorem ci_a215_0 : e2_idl 1 (al_a215_0.set 2 (9, 0, 0)) = true := by decide +kernel
set_option maxRecDepth 1000000 in
theorem cj_a215_0 : e2_idh 1 8 h_a215_0 = true := by decide +kernel
theorem cs_a215 (hen : en_ok) (l : Launch) : e2_smOk l 1 s_a215 := by
  refine e2_conG (H := 0) (n := 0) (C := evd_105) (S := S_a215) (I := I_a215) (fuel := 4000) hen ei_105 e2_fz e2_fz (by decide) co_a215 fun M d _ hC hcall p e R s m args below meth c Q D cA A ads r0 ha hl0 => ?_
  have L_0 : e2_gdM M p l e R s m args below meth c Q D cA A ads r0 3 al_a215_0 [] E_a215_0 h_a215_0 := by
    refine e2_indD (u := 1) (j := 2) (lo := 2147483640) (hi := 2147483672) hl0 (by decide) rfl rfl rfl ci_a215_0 cj_a215_0 ?_
    intro r_0 k_0 hk_0 hp_0 hs_0 hn_0
    have hl_0 : r_0.length ≤ 2 := hs_0.len rfl
    have ha_0 := ha.ext hp_0
    exact e2_fromM hen ha_0 hcall (e2_cutA_ok (e2_fa (fun al st E h hc => hn_0 al st E h hc) e2_fz)) (hC []) (X := e2x_105) rfl 3 ck_a215_0
  have EN_0 := e2_entL (u := 1) (j := 2) (lo := 2147483640) (hi := 2147483672) hl0 rfl rfl rfl ci_a215_0 cj_a215_0 L_0
  exact e2_from hen ha hcall (e2_cutA_ok (e2_fa (fun al st E h hc => EN_0 al st E h hc) e2_fz)) (hC []) (X := e2x_105) rfl 0 ck_a215_e
/-! a216 X7_begin -/
def as_a216 : List ev_V := [(2, 34, 0)]
def E_a216 : e2_E := [(2147483648, 2147583648, 0, 0)]
noncomputable def f_a216 : ev_H := (an254 : e2_Q8)
noncomputable def q_a216_0 : ev_H := (an254 : e2_Q8)
noncomputable def rs_a216 : e2_Rs := [((9, 0, 0), q_a216_0)]
noncomputable def s_a216 : e2_Sm := (107, as_a216, E_a216, f_a216, rs_a216)
noncomputable def S_a216 : List e2_Sm := [s_a34]
noncomputable def I_a216 : List e2_In := []
set_option maxRecDepth 1000000 in
theorem ck_a216 : e2_run (e2_cal S_a216 I_a216 4000 0) (e2_fin rs_a216) e2x_107 (fun _ => false) (fun _ _ _ _ _ => false) 4000 (e2_seek e2x_107 0) (e2_al 1 as_a216) [] E_a216 f_a216 = true := by decide +kernel
set_option maxRecDepth 1000000 in
theorem co_a216 : e2_okSB E_a216.length as_a216 f_a216 rs_a216 = true := by decide +kernel
theorem cs_a216 (hen : en_ok) (l : Launch) (hh : e2_hand_a l) : e2_smOk l 63 s_a216 := e2_con0 (H := 62) (n := 0) (C := evd_107) (S := S_a216) (I := I_a216) (fuel := 4000) [] hen ei_107 (e2_fa (cs_a34 hen l hh) e2_fz) e2_fz (by decide) co_a216 ck_a216
/-! a217 X8_clear -/
def as_a217 : List ev_V := [(2, 17, 0)]
def E_a217 : e2_E := [(2147483648, 2147583648, 0, 0)]
def an942 : e2_Q2 := (an583, an86)
def an943 : e2_Q3 := (an942, an90)
def an944 : e2_Q4 := (an84, an943)
def an945 : e2_Q5 := (an341, an944)
def an946 : e2_Q6 := (an945, an493)
def an947 : e2_Q7 := (an62, an946)
def an948 : e2_Q4 := (an133, an290)
def an949 : e2_Q2 := (an583, an150)
def an950 : e2_Q3 := (an949, an154)
def an951 : e2_Q4 := (an148, an950)
def an952 : e2_Q5 := (an948, an951)
def an953 : e2_Q6 := (an952, an188)
def an954 : e2_Q5 := (an345, an513)
def an955 : e2_Q6 := (an954, an251)
def an956 : e2_Q7 := (an953, an955)
def an957 : e2_Q8 := (an947, an956)
noncomputable def f_a217 : ev_H := (an957 : e2_Q8)
noncomputable def q_a217_0 : ev_H := (an957 : e2_Q8)
noncomputable def rs_a217 : e2_Rs := [((9, 0, 0), q_a217_0)]
noncomputable def s_a217 : e2_Sm := (117, as_a217, E_a217, f_a217, rs_a217)
noncomputable def S_a217 : List e2_Sm := []
noncomputable def I_a217 : List e2_In := [(16, 1, e2x_16)]
set_option maxRecDepth 1000000 in
theorem co_a217 : e2_okSB E_a217.length as_a217 f_a217 rs_a217 = true := by decide +kernel
def al_a217_0 : List ev_V := [(2, 17, 0), (1, 1, 4294967296)]
def E_a217_0 : e2_E := [(2147483648, 2147583648, 0, 0), (2147483648, 2147483656, 1, 0)]
noncomputable def h_a217_0 : ev_H := (an957 : e2_Q8)
noncomputable def cl_a217_e : List (Nat × e2_S) := [(52, e2_cutL (al_a217_0.set 1 (11, 2147483648, 2147483656)) 1 (E_a217_0.take 1) h_a217_0)]
set_option maxRecDepth 1000000 in
theorem ck_a217_e : e2_run (e2_cal S_a217 I_a217 4000 1) (e2_fin rs_a217) e2x_117 (e2_bpL cl_a217_e) (e2_cutA cl_a217_e) 4000 (e2_seek e2x_117 0) (e2_al 2 as_a217) [] E_a217 f_a217 = true := by decide +kernel
noncomputable def cl_a217_0 : List (Nat × e2_S) := [(52, e2_cutL (al_a217_0.set 1 (13, 9, 2147483656)) 1 (E_a217_0.take 1) h_a217_0)]
set_option maxRecDepth 1000000 in
theorem ck_a217_0 : e2_runM (e2_cal S_a217 I_a217 4000 1) (e2_fin rs_a217) e2x_117 (e2_bpL cl_a217_0) (e2_cutA cl_a217_0) 4000 (e2_seek e2x_117 52) al_a217_0 [] E_a217_0 h_a217_0 = true := by decide +kernel
set_option maxRecDepth 1000000 in
theorem ci_a217_0 : e2_idl 1 (al_a217_0.set 1 (9, 0, 0)) = true := by decide +kernel
set_option maxRecDepth 1000000 in
theorem cj_a217_0 : e2_idh 1 8 h_a217_0 = true := by decide +kernel
theorem cs_a217 (hen : en_ok) (l : Launch) : e2_smOk l 2 s_a217 := by
  refine e2_conG (H := 0) (n := 1) (C := evd_117) (S := S_a217) (I := I_a217) (fuel := 4000) hen ei_117 e2_fz (e2_fa ein_16 e2_fz) (by decide) co_a217 fun M d _ hC hcall p e R s m args below meth c Q D cA A ads r0 ha hl0 => ?_
  have L_0 : e2_gdM M p l e R s m args below meth c Q D cA A ads r0 52 al_a217_0 [] E_a217_0 h_a217_0 := by
    refine e2_indL (u := 1) (j := 1) (lo := 2147483648) (hi := 2147483656) (b := 1) (dd := 0) hl0 (by decide) rfl rfl (Or.inr ⟨rfl, rfl⟩) rfl ci_a217_0 cj_a217_0 ?_
    intro r_0 k_0 hk_0 hp_0 hs_0 hn_0
    have hl_0 : r_0.length ≤ 2 := hs_0.len rfl
    have ha_0 := ha.ext hp_0
    exact e2_fromM hen ha_0 hcall (e2_cutA_ok (e2_fa (fun al st E h hc => hn_0 al st E h hc) e2_fz)) (hC []) (X := e2x_117) rfl 52 ck_a217_0
  have EN_0 := e2_entL (u := 1) (j := 1) (lo := 2147483648) (hi := 2147483656) hl0 rfl rfl rfl ci_a217_0 cj_a217_0 L_0
  exact e2_from hen ha hcall (e2_cutA_ok (e2_fa (fun al st E h hc => EN_0 al st E h hc) e2_fz)) (hC []) (X := e2x_117) rfl 0 ck_a217_e
