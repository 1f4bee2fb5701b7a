/-! CONTRACTS a, printed by a program -/
/-! a199 X4_placeFrom -/
def as_a199 : List ev_V := [(2, 59, 0), (0, 1, 0), (11, 2147483649, 2147483668), (11, 0, 4294967295)]
def E_a199 : e2_E := [(2147483648, 2147583648, 0, 0), (2147483652, 2147483668, 1, 0)]
def ac178 : ev_C := (4, [(2, 65, 0), (2, 63, 0), (2, 1, 0), (11, 0, 4294967295), (2, 62, 0), (11, 0, 4294967295), (11, 2147483648, 2147483668), (2, 60, 0), (11, 2147483648, 2147483668), (11, 0, 4294967295), (11, 0, 4294967295), (2, 61, 0), (2, 64, 0), (0, 1, 0)])
def an785 : e2_Q1 := (ac178, ac3)
def an786 : e2_Q2 := (an785, an216)
def an787 : e2_Q3 := (an214, an786)
def an788 : e2_Q4 := (an394, an787)
def an789 : e2_Q5 := (an323, an788)
def an790 : e2_Q6 := (an789, an415)
def an791 : e2_Q7 := (an411, an790)
def an792 : e2_Q8 := (an384, an791)
noncomputable def f_a199 : ev_H := (an792 : e2_Q8)
noncomputable def q_a199_0 : ev_H := (an792 : e2_Q8)
noncomputable def rs_a199 : e2_Rs := [((11, 2147483648, 2147483649), q_a199_0)]
noncomputable def s_a199 : e2_Sm := (81, as_a199, E_a199, f_a199, rs_a199)
noncomputable def S_a199 : List e2_Sm := [s_a7]
noncomputable def I_a199 : List e2_In := []
set_option maxRecDepth 1000000 in
theorem ck_a199 : e2_run (e2_cal S_a199 I_a199 4000 0) (e2_fin rs_a199) e2x_81 (fun _ => false) (fun _ _ _ _ _ => false) 4000 (e2_seek e2x_81 0) (e2_al 7 as_a199) [] E_a199 f_a199 = true := by decide +kernel
set_option maxRecDepth 1000000 in
theorem co_a199 : e2_okSB E_a199.length as_a199 f_a199 rs_a199 = true := by decide +kernel
theorem cs_a199 (hen : en_ok) (l : Launch) (hh : e2_hand_a l) : e2_smOk l 61 s_a199 := e2_con0 (H := 60) (n := 0) (C := evd_81) (S := S_a199) (I := I_a199) (fuel := 4000) [60, 62] hen ei_81 (e2_fa (hh _ hm_a7) e2_fz) e2_fz (by decide) co_a199 ex2_81 ck_a199
/-! a200 X4_placeFrom -/
def as_a200 : List ev_V := [(2, 59, 0), (0, 1, 0), (11, 2147483648, 2147483668), (11, 0, 4294967295)]
def E_a200 : e2_E := [(2147483648, 2147583648, 0, 0), (2147483652, 2147483668, 1, 0)]
def an793 : e2_Q6 := (an789, an398)
def an794 : e2_Q7 := (an392, an793)
def an795 : e2_Q8 := (an384, an794)
noncomputable def f_a200 : ev_H := (an795 : e2_Q8)
noncomputable def q_a200_0 : ev_H := (an792 : e2_Q8)
noncomputable def q_a200_1 : ev_H := (an795 : e2_Q8)
noncomputable def rs_a200 : e2_Rs := [((11, 2147483648, 2147483649), q_a200_0), ((0, 0, 0), q_a200_1)]
noncomputable def s_a200 : e2_Sm := (81, as_a200, E_a200, f_a200, rs_a200)
noncomputable def S_a200 : List e2_Sm := [s_a5]
noncomputable def I_a200 : List e2_In := []
set_option maxRecDepth 1000000 in
theorem ck_a200 : e2_run (e2_cal S_a200 I_a200 4000 0) (e2_fin rs_a200) e2x_81 (fun _ => false) (fun _ _ _ _ _ => false) 4000 (e2_seek e2x_81 0) (e2_al 7 as_a200) [] E_a200 f_a200 = true := by decide +kernel
set_option maxRecDepth 1000000 in
theorem co_a200 : e2_okSB E_a200.length as_a200 f_a200 rs_a200 = true := by decide +kernel
theorem cs_a200 (hen : en_ok) (l : Launch) (hh : e2_hand_a l) : e2_smOk l 61 s_a200 := e2_con0 (H := 60) (n := 0) (C := evd_81) (S := S_a200) (I := I_a200) (fuel := 4000) [60, 62] hen ei_81 (e2_fa (hh _ hm_a5) e2_fz) e2_fz (by decide) co_a200 ex2_81 ck_a200
/-! a201 X4_placeFrom -/
def as_a201 : List ev_V := [(2, 59, 0), (0, 0, 0), (0, 0, 0), (0, 0, 0)]
def E_a201 : e2_E := [(2147483648, 2147583648, 0, 0), (2147483652, 2147483668, 1, 0)]
def ac179 : ev_C := (50, [(11, 2147483648, 2147483655), (0, 4294967295, 0), (11, 2147483647, 2147483655)])
def an796 : e2_Q1 := (ac179, ac3)
def an797 : e2_Q2 := (an0, an796)
def an798 : e2_Q3 := (an797, an5)
def an799 : e2_Q4 := (an798, an13)
def an800 : e2_Q5 := (an799, an359)
def an801 : e2_Q6 := (an800, an744)
def an802 : e2_Q7 := (an801, an383)
def an803 : e2_Q8 := (an802, an794)
noncomputable def f_a201 : ev_H := (an803 : e2_Q8)
def an804 : e2_Q8 := (an802, an791)
noncomputable def q_a201_0 : ev_H := (an804 : e2_Q8)
noncomputable def q_a201_1 : ev_H := (an803 : e2_Q8)
noncomputable def rs_a201 : e2_Rs := [((11, 2147483648, 2147483649), q_a201_0), ((0, 0, 0), q_a201_1)]
noncomputable def s_a201 : e2_Sm := (81, as_a201, E_a201, f_a201, rs_a201)
noncomputable def S_a201 : List e2_Sm := [s_a199, s_a200]
noncomputable def I_a201 : List e2_In := [(64, 2, e2x_64)]
set_option maxRecDepth 1000000 in
theorem co_a201 : e2_okSB E_a201.length as_a201 f_a201 rs_a201 = true := by decide +kernel
def al_a201_0 : List ev_V := [(2, 59, 0), (0, 0, 0), (0, 0, 0), (0, 0, 0), (11, 2147483648, 2147483655), (1, 2, 4294967296), (11, 2147483648, 2147483668)]
def E_a201_0 : e2_E := [(2147483648, 2147583648, 0, 0), (2147483652, 2147483668, 1, 0), (2147483649, 2147483669, 2, 0)]
noncomputable def h_a201_0 : ev_H := (an804 : e2_Q8)
def al_a201_1 : List ev_V := [(2, 59, 0), (0, 0, 0), (0, 0, 0), (0, 0, 0), (11, 2147483648, 2147483655), (1, 2, 4294967296), (9, 0, 0)]
def E_a201_1 : e2_E := [(2147483648, 2147583648, 0, 0), (2147483652, 2147483668, 1, 0), (2147483648, 2147483669, 2, 0)]
noncomputable def h_a201_1 : ev_H := (an803 : e2_Q8)
noncomputable def cl_a201_e : List (Nat × e2_S) := [(51, e2_cutL (al_a201_1.set 5 (11, 2147483648, 2147483669)) 2 (E_a201_1.take 2) h_a201_1)]
set_option maxRecDepth 1000000 in
theorem ck_a201_e : e2_run (e2_cal S_a201 I_a201 4000 1) (e2_fin rs_a201) e2x_81 (e2_bpL cl_a201_e) (e2_cutA cl_a201_e) 4000 (e2_seek e2x_81 0) (e2_al 7 as_a201) [] E_a201 f_a201 = true := by decide +kernel
noncomputable def cl_a201_0 : List (Nat × e2_S) := [(51, e2_cutL (al_a201_0.set 5 (13, 10, 2147483669)) 2 (E_a201_0.take 2) h_a201_0)]
set_option maxRecDepth 1000000 in
theorem ck_a201_0 : e2_runM (e2_cal S_a201 I_a201 4000 1) (e2_fin rs_a201) e2x_81 (e2_bpL cl_a201_0) (e2_cutA cl_a201_0) 4000 (e2_seek e2x_81 51) al_a201_0 [] E_a201_0 h_a201_0 = true := by decide +kernel
set_option maxRecDepth 1000000 in
theorem ci_a201_0 : e2_idl 2 (al_a201_0.set 5 (9, 0, 0)) = true := by decide +kernel
set_option maxRecDepth 1000000 in
theorem cj_a201_0 : e2_idh 2 8 h_a201_0 = true := by decide +kernel
noncomputable def cl_a201_1 : List (Nat × e2_S) := [(51, e2_cutL (al_a201_0.set 5 (11, 2147483649, 2147483669)) 2 (E_a201_0.take 2) h_a201_0),
  (51, e2_cutL (al_a201_1.set 5 (13, 10, 2147483669)) 2 (E_a201_1.take 2) h_a201_1)]
set_option maxRecDepth 1000000 in
theorem ck_a201_1 : e2_runM (e2_cal S_a201 I_a201 4000 1) (e2_fin rs_a201) e2x_81 (e2_bpL cl_a201_1) (e2_cutA cl_a201_1) 4000 (e2_seek e2x_81 51) al_a201_1 [] E_a201_1 h_a201_1 = true := by decide +kernel
set_option maxRecDepth 1000000 in
theorem ci_a201_1 : e2_idl 2 (al_a201_1.set 5 (9, 0, 0)) = true := by decide +kernel
set_option maxRecDepth 1000000 in
theorem cj_a201_1 : e2_idh 2 8 h_a201_1 = true := by decide +kernel
theorem cs_a201 (hen : en_ok) (l : Launch) (hh : e2_hand_a l) : e2_smOk l 63 s_a201 := by
  refine e2_conG (H := 61) (n := 1) (C := evd_81) (S := S_a201) (I := I_a201) (fuel := 4000) hen ei_81 (e2_fa (cs_a199 hen l hh) (e2_fa (cs_a200 hen l hh) e2_fz)) (e2_fa ein_64 e2_fz) (by decide) co_a201 fun M d _ hC hcall p e R s m args below meth c Q D cA A ads r0 ha hl0 => ?_
  have L_0 : e2_gdM M p l e R s m args below meth c Q D cA A ads r0 51 al_a201_0 [] E_a201_0 h_a201_0 := by
    refine e2_indL (u := 2) (j := 5) (lo := 2147483649) (hi := 2147483669) (b := 2) (dd := 0) hl0 (by decide) rfl rfl (Or.inr ⟨rfl, rfl⟩) rfl ci_a201_0 cj_a201_0 ?_
    intro r_0 k_0 hk_0 hp_0 hs_0 hn_0
    have hl_0 : r_0.length ≤ 3 := hs_0.len rfl
    have ha_0 := ha.ext hp_0
    exact e2_fromM hen ha_0 hcall (e2_cutA_ok (e2_fa (fun al st E h hc => hn_0 al st E h hc) e2_fz)) (hC [60, 62]) (X := e2x_81) ex2_81 51 ck_a201_0
  have EN_0 := e2_entL (u := 2) (j := 5) (lo := 2147483649) (hi := 2147483669) hl0 rfl rfl rfl ci_a201_0 cj_a201_0 L_0
  have L_1 : e2_gdM M p l e R s m args below meth c Q D cA A ads r0 51 al_a201_1 [] E_a201_1 h_a201_1 := by
    refine e2_indL (u := 2) (j := 5) (lo := 2147483648) (hi := 2147483669) (b := 2) (dd := 0) hl0 (by decide) rfl rfl (Or.inr ⟨rfl, rfl⟩) rfl ci_a201_1 cj_a201_1 ?_
    intro r_1 k_1 hk_1 hp_1 hs_1 hn_1
    have hl_1 : r_1.length ≤ 3 := hs_1.len rfl
    have ha_1 := ha.ext hp_1
    exact e2_fromM hen ha_1 hcall (e2_cutA_ok (e2_fa (fun al st E h hc => (EN_0 al st E h hc).ext hp_1) (e2_fa (fun al st E h hc => hn_1 al st E h hc) e2_fz))) (hC [60, 62]) (X := e2x_81) ex2_81 51 ck_a201_1
  have EN_1 := e2_entL (u := 2) (j := 5) (lo := 2147483648) (hi := 2147483669) hl0 rfl rfl rfl ci_a201_1 cj_a201_1 L_1
  exact e2_from hen ha hcall (e2_cutA_ok (e2_fa (fun al st E h hc => EN_1 al st E h hc) e2_fz)) (hC [60, 62]) (X := e2x_81) ex2_81 0 ck_a201_e
/-! a202 X4_placeFrom -/
def as_a202 : List ev_V := [(2, 59, 0), (0, 2, 0), (11, 2147483649, 2147483668), (11, 0, 4294967295)]
def E_a202 : e2_E := [(2147483648, 2147583648, 0, 0), (2147483652, 2147483668, 1, 0)]
def ac180 : ev_C := (4, [(2, 65, 0), (2, 63, 0), (2, 1, 0), (11, 0, 4294967295), (2, 62, 0), (11, 0, 4294967295), (11, 2147483648, 2147483668), (2, 60, 0), (11, 2147483648, 2147483668), (11, 0, 4294967295), (11, 0, 4294967295), (2, 61, 0), (2, 64, 0), (0, 2, 0)])
def an805 : e2_Q1 := (ac180, ac3)
def an806 : e2_Q2 := (an805, an216)
def an807 : e2_Q3 := (an214, an806)
def an808 : e2_Q4 := (an394, an807)
def an809 : e2_Q5 := (an323, an808)
def an810 : e2_Q6 := (an809, an415)
def an811 : e2_Q7 := (an411, an810)
def an812 : e2_Q8 := (an384, an811)
noncomputable def f_a202 : ev_H := (an812 : e2_Q8)
noncomputable def q_a202_0 : ev_H := (an812 : e2_Q8)
noncomputable def rs_a202 : e2_Rs := [((11, 2147483648, 2147483649), q_a202_0)]
noncomputable def s_a202 : e2_Sm := (81, as_a202, E_a202, f_a202, rs_a202)
noncomputable def S_a202 : List e2_Sm := [s_a7]
noncomputable def I_a202 : List e2_In := []
set_option maxRecDepth 1000000 in
theorem ck_a202 : e2_run (e2_cal S_a202 I_a202 4000 0) (e2_fin rs_a202) e2x_81 (fun _ => false) (fun _ _ _ _ _ => false) 4000 (e2_seek e2x_81 0) (e2_al 7 as_a202) [] E_a202 f_a202 = true := by decide +kernel
set_option maxRecDepth 1000000 in
theorem co_a202 : e2_okSB E_a202.length as_a202 f_a202 rs_a202 = true := by decide +kernel
theorem cs_a202 (hen : en_ok) (l : Launch) (hh : e2_hand_a l) : e2_smOk l 61 s_a202 := e2_con0 (H := 60) (n := 0) (C := evd_81) (S := S_a202) (I := I_a202) (fuel := 4000) [60, 62] hen ei_81 (e2_fa (hh _ hm_a7) e2_fz) e2_fz (by decide) co_a202 ex2_81 ck_a202
/-! a203 X4_placeFrom -/
def as_a203 : List ev_V := [(2, 59, 0), (0, 1, 0), (11, 2147483649, 2147483668), (11, 0, 4294967295)]
def E_a203 : e2_E := [(2147483648, 2147583648, 0, 0), (2147483652, 2147483668, 1, 0)]
def ac181 : ev_C := (50, [(11, 2147483648, 2147483655), (11, 2147483648, 2147483655), (0, 4294967295, 0)])
def an813 : e2_Q1 := (ac181, ac3)
def an814 : e2_Q2 := (an0, an813)
def an815 : e2_Q3 := (an814, an5)
def an816 : e2_Q4 := (an815, an13)
def an817 : e2_Q5 := (an816, an359)
def an818 : e2_Q6 := (an817, an744)
def an819 : e2_Q7 := (an818, an383)
def an820 : e2_Q8 := (an819, an811)
noncomputable def f_a203 : ev_H := (an820 : e2_Q8)
noncomputable def q_a203_0 : ev_H := (an820 : e2_Q8)
noncomputable def rs_a203 : e2_Rs := [((11, 2147483648, 2147483649), q_a203_0)]
noncomputable def s_a203 : e2_Sm := (81, as_a203, E_a203, f_a203, rs_a203)
noncomputable def S_a203 : List e2_Sm := [s_a202]
noncomputable def I_a203 : List e2_In := [(64, 2, e2x_64)]
set_option maxRecDepth 1000000 in
theorem co_a203 : e2_okSB E_a203.length as_a203 f_a203 rs_a203 = true := by decide +kernel
def al_a203_0 : List ev_V := [(2, 59, 0), (0, 1, 0), (11, 2147483649, 2147483668), (11, 0, 4294967295), (11, 2147483648, 2147483655), (1, 2, 4294967296), (9, 0, 0)]
def E_a203_0 : e2_E := [(2147483648, 2147583648, 0, 0), (2147483652, 2147483668, 1, 0), (2147483649, 2147483669, 2, 0)]
noncomputable def h_a203_0 : ev_H := (an820 : e2_Q8)
noncomputable def cl_a203_e : List (Nat × e2_S) := [(51, e2_cutL (al_a203_0.set 5 (11, 2147483649, 2147483669)) 2 (E_a203_0.take 2) h_a203_0)]
set_option maxRecDepth 1000000 in
theorem ck_a203_e : e2_run (e2_cal S_a203 I_a203 4000 1) (e2_fin rs_a203) e2x_81 (e2_bpL cl_a203_e) (e2_cutA cl_a203_e) 4000 (e2_seek e2x_81 0) (e2_al 7 as_a203) [] E_a203 f_a203 = true := by decide +kernel
noncomputable def cl_a203_0 : List (Nat × e2_S) := [(51, e2_cutL (al_a203_0.set 5 (13, 10, 2147483669)) 2 (E_a203_0.take 2) h_a203_0)]
set_option maxRecDepth 1000000 in
theorem ck_a203_0 : e2_runM (e2_cal S_a203 I_a203 4000 1) (e2_fin rs_a203) e2x_81 (e2_bpL cl_a203_0) (e2_cutA cl_a203_0) 4000 (e2_seek e2x_81 51) al_a203_0 [] E_a203_0 h_a203_0 = true := by decide +kernel
set_option maxRecDepth 1000000 in
theorem ci_a203_0 : e2_idl 2 (al_a203_0.set 5 (9, 0, 0)) = true := by decide +kernel
set_option maxRecDepth 1000000 in
theorem cj_a203_0 : e2_idh 2 8 h_a203_0 = true := by decide +kernel
theorem cs_a203 (hen : en_ok) (l : Launch) (hh : e2_hand_a l) : e2_smOk l 63 s_a203 := by
  refine e2_conG (H := 61) (n := 1) (C := evd_81) (S := S_a203) (I := I_a203) (fuel := 4000) hen ei_81 (e2_fa (cs_a202 hen l hh) e2_fz) (e2_fa ein_64 e2_fz) (by decide) co_a203 fun M d _ hC hcall p e R s m args below meth c Q D cA A ads r0 ha hl0 => ?_
  have L_0 : e2_gdM M p l e R s m args below meth c Q D cA A ads r0 51 al_a203_0 [] E_a203_0 h_a203_0 := by
    refine e2_indL (u := 2) (j := 5) (lo := 2147483649) (hi := 2147483669) (b := 2) (dd := 0) hl0 (by decide) rfl rfl (Or.inr ⟨rfl, rfl⟩) rfl ci_a203_0 cj_a203_0 ?_
    intro r_0 k_0 hk_0 hp_0 hs_0 hn_0
    have hl_0 : r_0.length ≤ 3 := hs_0.len rfl
    have ha_0 := ha.ext hp_0
    exact e2_fromM hen ha_0 hcall (e2_cutA_ok (e2_fa (fun al st E h hc => hn_0 al st E h hc) e2_fz)) (hC [60, 62]) (X := e2x_81) ex2_81 51 ck_a203_0
  have EN_0 := e2_entL (u := 2) (j := 5) (lo := 2147483649) (hi := 2147483669) hl0 rfl rfl rfl ci_a203_0 cj_a203_0 L_0
  exact e2_from hen ha hcall (e2_cutA_ok (e2_fa (fun al st E h hc => EN_0 al st E h hc) e2_fz)) (hC [60, 62]) (X := e2x_81) ex2_81 0 ck_a203_e
/-! a204 X4_placeFrom -/
def as_a204 : List ev_V := [(2, 59, 0), (0, 2, 0), (11, 2147483648, 2147483668), (11, 0, 4294967295)]
def E_a204 : e2_E := [(2147483648, 2147583648, 0, 0), (2147483652, 2147483668, 1, 0)]
def an821 : e2_Q6 := (an809, an398)
def an822 : e2_Q7 := (an392, an821)
def an823 : e2_Q8 := (an384, an822)
noncomputable def f_a204 : ev_H := (an823 : e2_Q8)
noncomputable def q_a204_0 : ev_H := (an812 : e2_Q8)
noncomputable def q_a204_1 : ev_H := (an823 : e2_Q8)
noncomputable def rs_a204 : e2_Rs := [((11, 2147483648, 2147483649), q_a204_0), ((0, 0, 0), q_a204_1)]
noncomputable def s_a204 : e2_Sm := (81, as_a204, E_a204, f_a204, rs_a204)
noncomputable def S_a204 : List e2_Sm := [s_a5]
noncomputable def I_a204 : List e2_In := []
set_option maxRecDepth 1000000 in
theorem ck_a204 : e2_run (e2_cal S_a204 I_a204 4000 0) (e2_fin rs_a204) e2x_81 (fun _ => false) (fun _ _ _ _ _ => false) 4000 (e2_seek e2x_81 0) (e2_al 7 as_a204) [] E_a204 f_a204 = true := by decide +kernel
set_option maxRecDepth 1000000 in
theorem co_a204 : e2_okSB E_a204.length as_a204 f_a204 rs_a204 = true := by decide +kernel
theorem cs_a204 (hen : en_ok) (l : Launch) (hh : e2_hand_a l) : e2_smOk l 61 s_a204 := e2_con0 (H := 60) (n := 0) (C := evd_81) (S := S_a204) (I := I_a204) (fuel := 4000) [60, 62] hen ei_81 (e2_fa (hh _ hm_a5) e2_fz) e2_fz (by decide) co_a204 ex2_81 ck_a204
/-! a205 X4_placeFrom -/
def as_a205 : List ev_V := [(2, 59, 0), (0, 1, 0), (11, 2147483648, 2147483668), (11, 0, 4294967295)]
def E_a205 : e2_E := [(2147483648, 2147583648, 0, 0), (2147483652, 2147483668, 1, 0)]
def an824 : e2_Q8 := (an819, an822)
noncomputable def f_a205 : ev_H := (an824 : e2_Q8)
noncomputable def q_a205_0 : ev_H := (an820 : e2_Q8)
noncomputable def q_a205_1 : ev_H := (an824 : e2_Q8)
noncomputable def rs_a205 : e2_Rs := [((11, 2147483648, 2147483649), q_a205_0), ((0, 0, 0), q_a205_1)]
noncomputable def s_a205 : e2_Sm := (81, as_a205, E_a205, f_a205, rs_a205)
noncomputable def S_a205 : List e2_Sm := [s_a202, s_a204]
noncomputable def I_a205 : List e2_In := [(64, 2, e2x_64)]
set_option maxRecDepth 1000000 in
theorem co_a205 : e2_okSB E_a205.length as_a205 f_a205 rs_a205 = true := by decide +kernel
def al_a205_0 : List ev_V := [(2, 59, 0), (0, 1, 0), (11, 2147483648, 2147483668), (11, 0, 4294967295), (11, 2147483648, 2147483655), (1, 2, 4294967296), (11, 2147483648, 2147483668)]
def E_a205_0 : e2_E := [(2147483648, 2147583648, 0, 0), (2147483652, 2147483668, 1, 0), (2147483649, 2147483669, 2, 0)]
noncomputable def h_a205_0 : ev_H := (an820 : e2_Q8)
def al_a205_1 : List ev_V := [(2, 59, 0), (0, 1, 0), (11, 2147483648, 2147483668), (11, 0, 4294967295), (11, 2147483648, 2147483655), (1, 2, 4294967296), (9, 0, 0)]
def E_a205_1 : e2_E := [(2147483648, 2147583648, 0, 0), (2147483652, 2147483668, 1, 0), (2147483648, 2147483669, 2, 0)]
noncomputable def h_a205_1 : ev_H := (an824 : e2_Q8)
noncomputable def cl_a205_e : List (Nat × e2_S) := [(51, e2_cutL (al_a205_1.set 5 (11, 2147483648, 2147483669)) 2 (E_a205_1.take 2) h_a205_1)]
set_option maxRecDepth 1000000 in
theorem ck_a205_e : e2_run (e2_cal S_a205 I_a205 4000 1) (e2_fin rs_a205) e2x_81 (e2_bpL cl_a205_e) (e2_cutA cl_a205_e) 4000 (e2_seek e2x_81 0) (e2_al 7 as_a205) [] E_a205 f_a205 = true := by decide +kernel
noncomputable def cl_a205_0 : List (Nat × e2_S) := [(51, e2_cutL (al_a205_0.set 5 (13, 10, 2147483669)) 2 (E_a205_0.take 2) h_a205_0)]
set_option maxRecDepth 1000000 in
theorem ck_a205_0 : e2_runM (e2_cal S_a205 I_a205 4000 1) (e2_fin rs_a205) e2x_81 (e2_bpL cl_a205_0) (e2_cutA cl_a205_0) 4000 (e2_seek e2x_81 51) al_a205_0 [] E_a205_0 h_a205_0 = true := by decide +kernel
set_option maxRecDepth 1000000 in
theorem ci_a205_0 : e2_idl 2 (al_a205_0.set 5 (9, 0, 0)) = true := by decide +kernel
set_option maxRecDepth 1000000 in
theorem cj_a205_0 : e2_idh 2 8 h_a205_0 = true := by decide +kernel
noncomputable def cl_a205_1 : List (Nat × e2_S) := [(51, e2_cutL (al_a205_0.set 5 (11, 2147483649, 2147483669)) 2 (E_a205_0.take 2) h_a205_0),
  (51, e2_cutL (al_a205_1.set 5 (13, 10, 2147483669)) 2 (E_a205_1.take 2) h_a205_1)]
set_option maxRecDepth 1000000 in
theorem ck_a205_1 : e2_runM (e2_cal S_a205 I_a205 4000 1) (e2_fin rs_a205) e2x_81 (e2_bpL cl_a205_1) (e2_cutA cl_a205_1) 4000 (e2_seek e2x_81 51) al_a205_1 [] E_a205_1 h_a205_1 = true := by decide +kernel
set_option maxRecDepth 1000000 in
theorem ci_a205_1 : e2_idl 2 (al_a205_1.set 5 (9, 0, 0)) = true := by decide +kernel
set_option maxRecDepth 1000000 in
theorem cj_a205_1 : e2_idh 2 8 h_a205_1 = true := by decide +kernel
theorem cs_a205 (hen : en_ok) (l : Launch) (hh : e2_hand_a l) : e2_smOk l 63 s_a205 := by
  refine e2_conG (H := 61) (n := 1) (C := evd_81) (S := S_a205) (I := I_a205) (fuel := 4000) hen ei_81 (e2_fa (cs_a202 hen l hh) (e2_fa (cs_a204 hen l hh) e2_fz)) (e2_fa ein_64 e2_fz) (by decide) co_a205 fun M d _ hC hcall p e R s m args below meth c Q D cA A ads r0 ha hl0 => ?_
  have L_0 : e2_gdM M p l e R s m args below meth c Q D cA A ads r0 51 al_a205_0 [] E_a205_0 h_a205_0 := by
    refine e2_indL (u := 2) (j := 5) (lo := 2147483649) (hi := 2147483669) (b := 2) (dd := 0) hl0 (by decide) rfl rfl (Or.inr ⟨rfl, rfl⟩) rfl ci_a205_0 cj_a205_0 ?_
    intro r_0 k_0 hk_0 hp_0 hs_0 hn_0
    have hl_0 : r_0.length ≤ 3 := hs_0.len rfl
    have ha_0 := ha.ext hp_0
    exact e2_fromM hen ha_0 hcall (e2_cutA_ok (e2_fa (fun al st E h hc => hn_0 al st E h hc) e2_fz)) (hC [60, 62]) (X := e2x_81) ex2_81 51 ck_a205_0
  have EN_0 := e2_entL (u := 2) (j := 5) (lo := 2147483649) (hi := 2147483669) hl0 rfl rfl rfl ci_a205_0 cj_a205_0 L_0
  have L_1 : e2_gdM M p l e R s m args below meth c Q D cA A ads r0 51 al_a205_1 [] E_a205_1 h_a205_1 := by
    refine e2_indL (u := 2) (j := 5) (lo := 2147483648) (hi := 2147483669) (b := 2) (dd := 0) hl0 (by decide) rfl rfl (Or.inr ⟨rfl, rfl⟩) rfl ci_a205_1 cj_a205_1 ?_
    intro r_1 k_1 hk_1 hp_1 hs_1 hn_1
    have hl_1 : r_1.length ≤ 3 := hs_1.len rfl
    have ha_1 := ha.ext hp_1
    exact e2_fromM hen ha_1 hcall (e2_cutA_ok (e2_fa (fun al st E h hc => (EN_0 al st E h hc).ext hp_1) (e2_fa (fun al st E h hc => hn_1 al st E h hc) e2_fz))) (hC [60, 62]) (X := e2x_81) ex2_81 51 ck_a205_1
  have EN_1 := e2_entL (u := 2) (j := 5) (lo := 2147483648) (hi := 2147483669) hl0 rfl rfl rfl ci_a205_1 cj_a205_1 L_1
  exact e2_from hen ha hcall (e2_cutA_ok (e2_fa (fun al st E h hc => EN_1 al st E h hc) e2_fz)) (hC [60, 62]) (X := e2x_81) ex2_81 0 ck_a205_e
/-! a206 X4_placeFrom -/
def as_a206 : List ev_V := [(2, 59, 0), (0, 0, 0), (0, 0, 0), (0, 0, 0)]
def E_a206 : e2_E := [(2147483648, 2147583648, 0, 0), (2147483652, 2147483668, 1, 0)]
noncomputable def f_a206 : ev_H := (an824 : e2_Q8)
noncomputable def q_a206_0 : ev_H := (an820 : e2_Q8)
noncomputable def q_a206_1 : ev_H := (an824 : e2_Q8)
noncomputable def rs_a206 : e2_Rs := [((11, 2147483648, 2147483649), q_a206_0), ((0, 0, 0), q_a206_1)]
noncomputable def s_a206 : e2_Sm := (81, as_a206, E_a206, f_a206, rs_a206)
noncomputable def S_a206 : List e2_Sm := [s_a203, s_a205]
noncomputable def I_a206 : List e2_In := [(64, 2, e2x_64)]
set_option maxRecDepth 1000000 in
theorem co_a206 : e2_okSB E_a206.length as_a206 f_a206 rs_a206 = true := by decide +kernel
def al_a206_0 : List ev_V := [(2, 59, 0), (0, 0, 0), (0, 0, 0), (0, 0, 0), (11, 2147483648, 2147483655), (1, 2, 4294967296), (11, 2147483648, 2147483668)]
def E_a206_0 : e2_E := [(2147483648, 2147583648, 0, 0), (2147483652, 2147483668, 1, 0), (2147483649, 2147483669, 2, 0)]
noncomputable def h_a206_0 : ev_H := (an820 : e2_Q8)
def al_a206_1 : List ev_V := [(2, 59, 0), (0, 0, 0), (0, 0, 0), (0, 0, 0), (11, 2147483648, 2147483655), (1, 2, 4294967296), (9, 0, 0)]
def E_a206_1 : e2_E := [(2147483648, 2147583648, 0, 0), (2147483652, 2147483668, 1, 0), (2147483648, 2147483669, 2, 0)]
noncomputable def h_a206_1 : ev_H := (an824 : e2_Q8)
noncomputable def cl_a206_e : List (Nat × e2_S) := [(51, e2_cutL (al_a206_1.set 5 (11, 2147483648, 2147483669)) 2 (E_a206_1.take 2) h_a206_1)]
set_option maxRecDepth 1000000 in
theorem ck_a206_e : e2_run (e2_cal S_a206 I_a206 4000 1) (e2_fin rs_a206) e2x_81 (e2_bpL cl_a206_e) (e2_cutA cl_a206_e) 4000 (e2_seek e2x_81 0) (e2_al 7 as_a206) [] E_a206 f_a206 = true := by decide +kernel
noncomputable def cl_a206_0 : List (Nat × e2_S) := [(51, e2_cutL (al_a206_0.set 5 (13, 10, 2147483669)) 2 (E_a206_0.take 2) h_a206_0)]
set_option maxRecDepth 1000000 in
theorem ck_a206_0 : e2_runM (e2_cal S_a206 I_a206 4000 1) (e2_fin rs_a206) e2x_81 (e2_bpL cl_a206_0) (e2_cutA cl_a206_0) 4000 (e2_seek e2x_81 51) al_a206_0 [] E_a206_0 h_a206_0 = true := by decide +kernel
set_option maxRecDepth 1000000 in
theorem ci_a206_0 : e2_idl 2 (al_a206_0.set 5 (9, 0, 0)) = true := by decide +kernel
set_option maxRecDepth 1000000 in
theorem cj_a206_0 : e2_idh 2 8 h_a206_0 = true := by decide +kernel
noncomputable def cl_a206_1 : List (Nat × e2_S) := [(51, e2_cutL (al_a206_0.set 5 (11, 2147483649, 2147483669)) 2 (E_a206_0.take 2) h_a206_0),
  (51, e2_cutL (al_a206_1.set 5 (13, 10, 2147483669)) 2 (E_a206_1.take 2) h_a206_1)]
set_option maxRecDepth 1000000 in
theorem ck_a206_1 : e2_runM (e2_cal S_a206 I_a206 4000 1) (e2_fin rs_a206) e2x_81 (e2_bpL cl_a206_1) (e2_cutA cl_a206_1) 4000 (e2_seek e2x_81 51) al_a206_1 [] E_a206_1 h_a206_1 = true := by decide +kernel
set_option maxRecDepth 1000000 in
theorem ci_a206_1 : e2_idl 2 (al_a206_1.set 5 (9, 0, 0)) = true := by decide +kernel
set_option maxRecDepth 1000000 in
theorem cj_a206_1 : e2_idh 2 8 h_a206_1 = true := by decide +kernel
theorem cs_a206 (hen : en_ok) (l : Launch) (hh : e2_hand_a l) : e2_smOk l 65 s_a206 := by
  refine e2_conG (H := 63) (n := 1) (C := evd_81) (S := S_a206) (I := I_a206) (fuel := 4000) hen ei_81 (e2_fa (cs_a203 hen l hh) (e2_fa (cs_a205 hen l hh) e2_fz)) (e2_fa ein_64 e2_fz) (by decide) co_a206 fun M d _ hC hcall p e R s m args below meth c Q D cA A ads r0 ha hl0 => ?_
  have L_0 : e2_gdM M p l e R s m args below meth c Q D cA A ads r0 51 al_a206_0 [] E_a206_0 h_a206_0 := by
    refine e2_indL (u := 2) (j := 5) (lo := 2147483649) (hi := 2147483669) (b := 2) (dd := 0) hl0 (by decide) rfl rfl (Or.inr ⟨rfl, rfl⟩) rfl ci_a206_0 cj_a206_0 ?_
    intro r_0 k_0 hk_0 hp_0 hs_0 hn_0
    have hl_0 : r_0.length ≤ 3 := hs_0.len rfl
    have ha_0 := ha.ext hp_0
    exact e2_fromM hen ha_0 hcall (e2_cutA_ok (e2_fa (fun al st E h hc => hn_0 al st E h hc) e2_fz)) (hC [60, 62]) (X := e2x_81) ex2_81 51 ck_a206_0
  have EN_0 := e2_entL (u := 2) (j := 5) (lo := 2147483649) (hi := 2147483669) hl0 rfl rfl rfl ci_a206_0 cj_a206_0 L_0
  have L_1 : e2_gdM M p l e R s m args below meth c Q D cA A ads r0 51 al_a206_1 [] E_a206_1 h_a206_1 := by
    refine e2_indL (u := 2) (j := 5) (lo := 2147483648) (hi := 2147483669) (b := 2) (dd := 0) hl0 (by decide) rfl rfl (Or.inr ⟨rfl, rfl⟩) rfl ci_a206_1 cj_a206_1 ?_
    intro r_1 k_1 hk_1 hp_1 hs_1 hn_1
    have hl_1 : r_1.length ≤ 3 := hs_1.len rfl
    have ha_1 := ha.ext hp_1
    exact e2_fromM hen ha_1 hcall (e2_cutA_ok (e2_fa (fun al st E h hc => (EN_0 al st E h hc).ext hp_1) (e2_fa (fun al st E h hc => hn_1 al st E h hc) e2_fz))) (hC [60, 62]) (X := e2x_81) ex2_81 51 ck_a206_1
  have EN_1 := e2_entL (u := 2) (j := 5) (lo := 2147483648) (hi := 2147483669) hl0 rfl rfl rfl ci_a206_1 cj_a206_1 L_1
  exact e2_from hen ha hcall (e2_cutA_ok (e2_fa (fun al st E h hc => EN_1 al st E h hc) e2_fz)) (hC [60, 62]) (X := e2x_81) ex2_81 0 ck_a206_e
/-! a207 X4_placeFrom -/
def as_a207 : List ev_V := [(2, 59, 0), (0, 3, 0), (11, 2147483649, 2147483668), (11, 0, 4294967295)]
def E_a207 : e2_E := [(2147483648, 2147583648, 0, 0), (2147483652, 2147483668, 1, 0)]
def ac182 : ev_C := (4, [(2, 65, 0), (2, 63, 0), (2, 1, 0), (11, 0, 4294967295), (2, 62, 0), (11, 0, 4294967295), (11, 2147483648, 2147483668), (2, 60, 0), (11, 2147483648, 2147483668), (11, 0, 4294967295), (11, 0, 4294967295), (2, 61, 0), (2, 64, 0), (0, 3, 0)])
def an825 : e2_Q1 := (ac182, ac3)
def an826 : e2_Q2 := (an825, an216)
def an827 : e2_Q3 := (an214, an826)
def an828 : e2_Q4 := (an394, an827)
def an829 : e2_Q5 := (an323, an828)
def an830 : e2_Q6 := (an829, an415)
def an831 : e2_Q7 := (an411, an830)
def an832 : e2_Q8 := (an384, an831)
noncomputable def f_a207 : ev_H := (an832 : e2_Q8)
noncomputable def q_a207_0 : ev_H := (an832 : e2_Q8)
noncomputable def rs_a207 : e2_Rs := [((11, 2147483648, 2147483649), q_a207_0)]
noncomputable def s_a207 : e2_Sm := (81, as_a207, E_a207, f_a207, rs_a207)
noncomputable def S_a207 : List e2_Sm := [s_a7]
noncomputable def I_a207 : List e2_In := []
set_option maxRecDepth 1000000 in
theorem ck_a207 : e2_run (e2_cal S_a207 I_a207 4000 0) (e2_fin rs_a207) e2x_81 (fun _ => false) (fun _ _ _ _ _ => false) 4000 (e2_seek e2x_81 0) (e2_al 7 as_a207) [] E_a207 f_a207 = true := by decide +kernel
set_option maxRecDepth 1000000 in
theorem co_a207 : e2_okSB E_a207.length as_a207 f_a207 rs_a207 = true := by decide +kernel
theorem cs_a207 (hen : en_ok) (l : Launch) (hh : e2_hand_a l) : e2_smOk l 61 s_a207 := e2_con0 (H := 60) (n := 0) (C := evd_81) (S := S_a207) (I := I_a207) (fuel := 4000) [60, 62] hen ei_81 (e2_fa (hh _ hm_a7) e2_fz) e2_fz (by decide) co_a207 ex2_81 ck_a207
/-! a208 X4_placeFrom -/
def as_a208 : List ev_V := [(2, 59, 0), (0, 2, 0), (11, 2147483649, 2147483668), (11, 0, 4294967295)]
def E_a208 : e2_E := [(2147483648, 2147583648, 0, 0), (2147483652, 2147483668, 1, 0)]
def ac183 : ev_C := (50, [(11, 2147483648, 2147483655), (11, 2147483648, 2147483655), (11, 2147483648, 2147483655)])
def an833 : e2_Q1 := (ac183, ac3)
def an834 : e2_Q2 := (an0, an833)
def an835 : e2_Q3 := (an834, an5)
def an836 : e2_Q4 := (an835, an13)
def an837 : e2_Q5 := (an836, an359)
def an838 : e2_Q6 := (an837, an744)
def an839 : e2_Q7 := (an838, an383)
def an840 : e2_Q8 := (an839, an831)
noncomputable def f_a208 : ev_H := (an840 : e2_Q8)
noncomputable def q_a208_0 : ev_H := (an840 : e2_Q8)
noncomputable def rs_a208 : e2_Rs := [((11, 2147483648, 2147483649), q_a208_0)]
noncomputable def s_a208 : e2_Sm := (81, as_a208, E_a208, f_a208, rs_a208)
noncomputable def S_a208 : List e2_Sm := [s_a207]
noncomputable def I_a208 : List e2_In := [(64, 2, e2x_64)]
set_option maxRecDepth 1000000 in
theorem co_a208 : e2_okSB E_a208.length as_a208 f_a208 rs_a208 = true := by decide +kernel
def al_a208_0 : List ev_V := [(2, 59, 0), (0, 2, 0), (11, 2147483649, 2147483668), (11, 0, 4294967295), (11, 2147483648, 2147483655), (1, 2, 4294967296), (9, 0, 0)]
def E_a208_0 : e2_E := [(2147483648, 2147583648, 0, 0), (2147483652, 2147483668, 1, 0), (2147483649, 2147483669, 2, 0)]
noncomputable def h_a208_0 : ev_H := (an840 : e2_Q8)
noncomputable def cl_a208_e : List (Nat × e2_S) := [(51, e2_cutL (al_a208_0.set 5 (11, 2147483649, 2147483669)) 2 (E_a208_0.take 2) h_a208_0)]
set_option maxRecDepth 1000000 in
theorem ck_a208_e : e2_run (e2_cal S_a208 I_a208 4000 1) (e2_fin rs_a208) e2x_81 (e2_bpL cl_a208_e) (e2_cutA cl_a208_e) 4000 (e2_seek e2x_81 0) (e2_al 7 as_a208) [] E_a208 f_a208 = true := by decide +kernel
noncomputable def cl_a208_0 : List (Nat × e2_S) := [(51, e2_cutL (al_a208_0.set 5 (13, 10, 2147483669)) 2 (E_a208_0.take 2) h_a208_0)]
set_option maxRecDepth 1000000 in
theorem ck_a208_0 : e2_runM (e2_cal S_a208 I_a208 4000 1) (e2_fin rs_a208) e2x_81 (e2_bpL cl_a208_0) (e2_cutA cl_a208_0) 4000 (e2_seek e2x_81 51) al_a208_0 [] E_a208_0 h_a208_0 = true := by decide +kernel
set_option maxRecDepth 1000000 in
theorem ci_a208_0 : e2_idl 2 (al_a208_0.set 5 (9, 0, 0)) = true := by decide +kernel
set_option maxRecDepth 1000000 in
theorem cj_a208_0 : e2_idh 2 8 h_a208_0 = true := by decide +kernel
theorem cs_a208 (hen : en_ok) (l : Launch) (hh : e2_hand_a l) : e2_smOk l 63 s_a208 := by
  refine e2_conG (H := 61) (n := 1) (C := evd_81) (S := S_a208) (I := I_a208) (fuel := 4000) hen ei_81 (e2_fa (cs_a207 hen l hh) e2_fz) (e2_fa ein_64 e2_fz) (by decide) co_a208 fun M d _ hC hcall p e R s m args below meth c Q D cA A ads r0 ha hl0 => ?_
  have L_0 : e2_gdM M p l e R s m args below meth c Q D cA A ads r0 51 al_a208_0 [] E_a208_0 h_a208_0 := by
    refine e2_indL (u := 2) (j := 5) (lo := 2147483649) (hi := 2147483669) (b := 2) (dd := 0) hl0 (by decide) rfl rfl (Or.inr ⟨rfl, rfl⟩) rfl ci_a208_0 cj_a208_0 ?_
    intro r_0 k_0 hk_0 hp_0 hs_0 hn_0
    have hl_0 : r_0.length ≤ 3 := hs_0.len rfl
    have ha_0 := ha.ext hp_0
    exact e2_fromM hen ha_0 hcall (e2_cutA_ok (e2_fa (fun al st E h hc => hn_0 al st E h hc) e2_fz)) (hC [60, 62]) (X := e2x_81) ex2_81 51 ck_a208_0
  have EN_0 := e2_entL (u := 2) (j := 5) (lo := 2147483649) (hi := 2147483669) hl0 rfl rfl rfl ci_a208_0 cj_a208_0 L_0
  exact e2_from hen ha hcall (e2_cutA_ok (e2_fa (fun al st E h hc => EN_0 al st E h hc) e2_fz)) (hC [60, 62]) (X := e2x_81) ex2_81 0 ck_a208_e
/-! a209 X4_placeFrom -/
def as_a209 : List ev_V := [(2, 59, 0), (0, 1, 0), (11, 2147483649, 2147483668), (11, 0, 4294967295)]
def E_a209 : e2_E := [(2147483648, 2147583648, 0, 0), (2147483652, 2147483668, 1, 0)]
noncomputable def f_a209 : ev_H := (an840 : e2_Q8)
noncomputable def q_a209_0 : ev_H := (an840 : e2_Q8)
noncomputable def rs_a209 : e2_Rs := [((11, 2147483648, 2147483649), q_a209_0)]
noncomputable def s_a209 : e2_Sm := (81, as_a209, E_a209, f_a209, rs_a209)
noncomputable def S_a209 : List e2_Sm := [s_a208]
noncomputable def I_a209 : List e2_In := [(64, 2, e2x_64)]
set_option maxRecDepth 1000000 in
theorem co_a209 : e2_okSB E_a209.length as_a209 f_a209 rs_a209 = true := by decide +kernel
def al_a209_0 : List ev_V := [(2, 59, 0), (0, 1, 0), (11, 2147483649, 2147483668), (11, 0, 4294967295), (11, 2147483648, 2147483655), (1, 2, 4294967296), (9, 0, 0)]
def E_a209_0 : e2_E := [(2147483648, 2147583648, 0, 0), (2147483652, 2147483668, 1, 0), (2147483649, 2147483669, 2, 0)]
noncomputable def h_a209_0 : ev_H := (an840 : e2_Q8)
noncomputable def cl_a209_e : List (Nat × e2_S) := [(51, e2_cutL (al_a209_0.set 5 (11, 2147483649, 2147483669)) 2 (E_a209_0.take 2) h_a209_0)]
set_option maxRecDepth 1000000 in
theorem ck_a209_e : e2_run (e2_cal S_a209 I_a209 4000 1) (e2_fin rs_a209) e2x_81 (e2_bpL cl_a209_e) (e2_cutA cl_a209_e) 4000 (e2_seek e2x_81 0) (e2_al 7 as_a209) [] E_a209 f_a209 = true := by decide +kernel
noncomputable def cl_a209_0 : List (Nat × e2_S) := [(51, e2_cutL (al_a209_0.set 5 (13, 10, 2147483669)) 2 (E_a209_0.take 2) h_a209_0)]
set_option maxRecDepth 1000000 in
theorem ck_a209_0 : e2_runM (e2_cal S_a209 I_a209 4000 1) (e2_fin rs_a209) e2x_81 (e2_bpL cl_a209_0) (e2_cutA cl_a209_0) 4000 (e2_seek e2x_81 51) al_a209_0 [] E_a209_0 h_a209_0 = true := by decide +kernel
set_option maxRecDepth 1000000 in
theorem ci_a209_0 : e2_idl 2 (al_a209_0.set 5 (9, 0, 0)) = true := by decide +kernel
set_option maxRecDepth 1000000 in
theorem cj_a209_0 : e2_idh 2 8 h_a209_0 = true := by decide +kernel
theorem cs_a209 (hen : en_ok) (l : Launch) (hh : e2_hand_a l) : e2_smOk l 65 s_a209 := by
  refine e2_conG (H := 63) (n := 1) (C := evd_81) (S := S_a209) (I := I_a209) (fuel := 4000) hen ei_81 (e2_fa (cs_a208 hen l hh) e2_fz) (e2_fa ein_64 e2_fz) (by decide) co_a209 fun M d _ hC hcall p e R s m args below meth c Q D cA A ads r0 ha hl0 => ?_
  have L_0 : e2_gdM M p l e R s m args below meth c Q D cA A ads r0 51 al_a209_0 [] E_a209_0 h_a209_0 := by
    refine e2_indL (u := 2) (j := 5) (lo := 2147483649) (hi := 2147483669) (b := 2) (dd := 0) hl0 (by decide) rfl rfl (Or.inr ⟨rfl, rfl⟩) rfl ci_a209_0 cj_a209_0 ?_
    intro r_0 k_0 hk_0 hp_0 hs_0 hn_0
    have hl_0 : r_0.length ≤ 3 := hs_0.len rfl
    have ha_0 := ha.ext hp_0
    exact e2_fromM hen ha_0 hcall (e2_cutA_ok (e2_fa (fun al st E h hc => hn_0 al st E h hc) e2_fz)) (hC [60, 62]) (X := e2x_81) ex2_81 51 ck_a209_0
  have EN_0 := e2_entL (u := 2) (j := 5) (lo := 2147483649) (hi := 2147483669) hl0 rfl rfl rfl ci_a209_0 cj_a209_0 L_0
  exact e2_from hen ha hcall (e2_cutA_ok (e2_fa (fun al st E h hc => EN_0 al st E h hc) e2_fz)) (hC [60, 62]) (X := e2x_81) ex2_81 0 ck_a209_e
/-! a210 X4_placeFrom -/
def as_a210 : List ev_V := [(2, 59, 0), (0, 3, 0), (11, 2147483648, 2147483668), (11, 0, 4294967295)]
def E_a210 : e2_E := [(2147483648, 2147583648, 0, 0), (2147483652, 2147483668, 1, 0)]
def an841 : e2_Q6 := (an829, an398)
def an842 : e2_Q7 := (an392, an841)
def an843 : e2_Q8 := (an384, an842)
noncomputable def f_a210 : ev_H := (an843 : e2_Q8)
noncomputable def q_a210_0 : ev_H := (an832 : e2_Q8)
noncomputable def q_a210_1 : ev_H := (an843 : e2_Q8)
noncomputable def rs_a210 : e2_Rs := [((11, 2147483648, 2147483649), q_a210_0), ((0, 0, 0), q_a210_1)]
noncomputable def s_a210 : e2_Sm := (81, as_a210, E_a210, f_a210, rs_a210)
noncomputable def S_a210 : List e2_Sm := [s_a5]
noncomputable def I_a210 : List e2_In := []
set_option maxRecDepth 1000000 in
theorem ck_a210 : e2_run (e2_cal S_a210 I_a210 4000 0) (e2_fin rs_a210) e2x_81 (fun _ => false) (fun _ _ _ _ _ => false) 4000 (e2_seek e2x_81 0) (e2_al 7 as_a210) [] E_a210 f_a210 = true := by decide +kernel
set_option maxRecDepth 1000000 in
theorem co_a210 : e2_okSB E_a210.length as_a210 f_a210 rs_a210 = true := by decide +kernel
theorem cs_a210 (hen : en_ok) (l : Launch) (hh : e2_hand_a l) : e2_smOk l 61 s_a210 := e2_con0 (H := 60) (n := 0) (C := evd_81) (S := S_a210) (I := I_a210) (fuel := 4000) [60, 62] hen ei_81 (e2_fa (hh _ hm_a5) e2_fz) e2_fz (by decide) co_a210 ex2_81 ck_a210
/-! a211 X4_placeFrom -/
def as_a211 : List ev_V := [(2, 59, 0), (0, 2, 0), (11, 2147483648, 2147483668), (11, 0, 4294967295)]
def E_a211 : e2_E := [(2147483648, 2147583648, 0, 0), (2147483652, 2147483668, 1, 0)]
def an844 : e2_Q8 := (an839, an842)
noncomputable def f_a211 : ev_H := (an844 : e2_Q8)
noncomputable def q_a211_0 : ev_H := (an840 : e2_Q8)
noncomputable def q_a211_1 : ev_H := (an844 : e2_Q8)
noncomputable def rs_a211 : e2_Rs := [((11, 2147483648, 2147483649), q_a211_0), ((0, 0, 0), q_a211_1)]
noncomputable def s_a211 : e2_Sm := (81, as_a211, E_a211, f_a211, rs_a211)
noncomputable def S_a211 : List e2_Sm := [s_a207, s_a210]
noncomputable def I_a211 : List e2_In := [(64, 2, e2x_64)]
set_option maxRecDepth 1000000 in
theorem co_a211 : e2_okSB E_a211.length as_a211 f_a211 rs_a211 = true := by decide +kernel
def al_a211_0 : List ev_V := [(2, 59, 0), (0, 2, 0), (11, 2147483648, 2147483668), (11, 0, 4294967295), (11, 2147483648, 2147483655), (1, 2, 4294967296), (11, 2147483648, 2147483668)]
def E_a211_0 : e2_E := [(2147483648, 2147583648, 0, 0), (2147483652, 2147483668, 1, 0), (2147483649, 2147483669, 2, 0)]
noncomputable def h_a211_0 : ev_H := (an840 : e2_Q8)
def al_a211_1 : List ev_V := [(2, 59, 0), (0, 2, 0), (11, 2147483648, 2147483668), (11, 0, 4294967295), (11, 2147483648, 2147483655), (1, 2, 4294967296), (9, 0, 0)]
def E_a211_1 : e2_E := [(2147483648, 2147583648, 0, 0), (2147483652, 2147483668, 1, 0), (2147483648, 2147483669, 2, 0)]
noncomputable def h_a211_1 : ev_H := (an844 : e2_Q8)
noncomputable def cl_a211_e : List (Nat × e2_S) := [(51, e2_cutL (al_a211_1.set 5 (11, 2147483648, 2147483669)) 2 (E_a211_1.take 2) h_a211_1)]
set_option maxRecDepth 1000000 in
theorem ck_a211_e : e2_run (e2_cal S_a211 I_a211 4000 1) (e2_fin rs_a211) e2x_81 (e2_bpL cl_a211_e) (e2_cutA cl_a211_e) 4000 (e2_seek e2x_81 0) (e2_al 7 as_a211) [] E_a211 f_a211 = true := by decide +kernel
noncomputable def cl_a211_0 : List (Nat × e2_S) := [(51, e2_cutL (al_a211_0.set 5 (13, 10, 2147483669)) 2 (E_a211_0.take 2) h_a211_0)]
set_option maxRecDepth 1000000 in
theorem ck_a211_0 : e2_runM (e2_cal S_a211 I_a211 4000 1) (e2_fin rs_a211) e2x_81 (e2_bpL cl_a211_0) (e2_cutA cl_a211_0) 4000 (e2_seek e2x_81 51) al_a211_0 [] E_a211_0 h_a211_0 = true := by decide +kernel
set_option maxRecDepth 1000000 in
theorem ci_a211_0 : e2_idl 2 (al_a211_0.set 5 (9, 0, 0)) = true := by decide +kernel
set_option maxRecDepth 1000000 in
theorem cj_a211_0 : e2_idh 2 8 h_a211_0 = true := by decide +kernel
noncomputable def cl_a211_1 : List (Nat × e2_S) := [(51, e2_cutL (al_a211_0.set 5 (11, 2147483649, 2147483669)) 2 (E_a211_0.take 2) h_a211_0),
  (51, e2_cutL (al_a211_1.set 5 (13, 10, 2147483669)) 2 (E_a211_1.take 2) h_a211_1)]
set_option maxRecDepth 1000000 in
theorem ck_a211_1 : e2_runM (e2_cal S_a211 I_a211 4000 1) (e2_fin rs_a211) e2x_81 (e2_bpL cl_a211_1) (e2_cutA cl_a211_1) 4000 (e2_seek e2x_81 51) al_a211_1 [] E_a211_1 h_a211_1 = true := by decide +kernel
set_option maxRecDepth 1000000 in
theorem ci_a211_1 : e2_idl 2 (al_a211_1.set 5 (9, 0, 0)) = true := by decide +kernel
set_option maxRecDepth 1000000 in
theorem cj_a211_1 : e2_idh 2 8 h_a211_1 = true := by decide +kernel
theorem cs_a211 (hen : en_ok) (l : Launch) (hh : e2_hand_a l) : e2_smOk l 63 s_a211 := by
  refine e2_conG (H := 61) (n := 1) (C := evd_81) (S := S_a211) (I := I_a211) (fuel := 4000) hen ei_81 (e2_fa (cs_a207 hen l hh) (e2_fa (cs_a210 hen l hh) e2_fz)) (e2_fa ein_64 e2_fz) (by decide) co_a211 fun M d _ hC hcall p e R s m args below meth c Q D cA A ads r0 ha hl0 => ?_
  have L_0 : e2_gdM M p l e R s m args below meth c Q D cA A ads r0 51 al_a211_0 [] E_a211_0 h_a211_0 := by
    refine e2_indL (u := 2) (j := 5) (lo := 2147483649) (hi := 2147483669) (b := 2) (dd := 0) hl0 (by decide) rfl rfl (Or.inr ⟨rfl, rfl⟩) rfl ci_a211_0 cj_a211_0 ?_
    intro r_0 k_0 hk_0 hp_0 hs_0 hn_0
    have hl_0 : r_0.length ≤ 3 := hs_0.len rfl
    have ha_0 := ha.ext hp_0
    exact e2_fromM hen ha_0 hcall (e2_cutA_ok (e2_fa (fun al st E h hc => hn_0 al st E h hc) e2_fz)) (hC [60, 62]) (X := e2x_81) ex2_81 51 ck_a211_0
  have EN_0 := e2_entL (u := 2) (j := 5) (lo := 2147483649) (hi := 2147483669) hl0 rfl rfl rfl ci_a211_0 cj_a211_0 L_0
  have L_1 : e2_gdM M p l e R s m args below meth c Q D cA A ads r0 51 al_a211_1 [] E_a211_1 h_a211_1 := by
    refine e2_indL (u := 2) (j := 5) (lo := 2147483648) (hi := 2147483669) (b := 2) (dd := 0) hl0 (by decide) rfl rfl (Or.inr ⟨rfl, rfl⟩) rfl ci_a211_1 cj_a211_1 ?_
    intro r_1 k_1 hk_1 hp_1 hs_1 hn_1
    have hl_1 : r_1.length ≤ 3 := hs_1.len rfl
    have ha_1 := ha.ext hp_1
    exact e2_fromM hen ha_1 hcall (e2_cutA_ok (e2_fa (fun al st E h hc => (EN_0 al st E h hc).ext hp_1) (e2_fa (fun al st E h hc => hn_1 al st E h hc) e2_fz))) (hC [60, 62]) (X := e2x_81) ex2_81 51 ck_a211_1
  have EN_1 := e2_entL (u := 2) (j := 5) (lo := 2147483648) (hi := 2147483669) hl0 rfl rfl rfl ci_a211_1 cj_a211_1 L_1
  exact e2_from hen ha hcall (e2_cutA_ok (e2_fa (fun al st E h hc => EN_1 al st E h hc) e2_fz)) (hC [60, 62]) (X := e2x_81) ex2_81 0 ck_a211_e
/-! a212 X4_placeFrom -/
def as_a212 : List ev_V := [(2, 59, 0), (0, 1, 0), (11, 2147483648, 2147483668), (11, 0, 4294967295)]
def E_a212 : e2_E := [(2147483648, 2147583648, 0, 0), (2147483652, 2147483668, 1, 0)]
noncomputable def f_a212 : ev_H := (an844 : e2_Q8)
noncomputable def q_a212_0 : ev_H := (an840 : e2_Q8)
noncomputable def q_a212_1 : ev_H := (an844 : e2_Q8)
noncomputable def rs_a212 : e2_Rs := [((11, 2147483648, 2147483649), q_a212_0), ((0, 0, 0), q_a212_1)]
noncomputable def s_a212 : e2_Sm := (81, as_a212, E_a212, f_a212, rs_a212)
noncomputable def S_a212 : List e2_Sm := [s_a208, s_a211]
noncomputable def I_a212 : List e2_In := [(64, 2, e2x_64)]
set_option maxRecDepth 1000000 in
theorem co_a212 : e2_okSB E_a212.length as_a212 f_a212 rs_a212 = true := by decide +kernel
def al_a212_0 : List ev_V := [(2, 59, 0), (0, 1, 0), (11, 2147483648, 2147483668), (11, 0, 4294967295), (11, 2147483648, 2147483655), (1, 2, 4294967296), (11, 2147483648, 2147483668)]
def E_a212_0 : e2_E := [(2147483648, 2147583648, 0, 0), (2147483652, 2147483668, 1, 0), (2147483649, 2147483669, 2, 0)]
noncomputable def h_a212_0 : ev_H := (an840 : e2_Q8)
def al_a212_1 : List ev_V := [(2, 59, 0), (0, 1, 0), (11, 2147483648, 2147483668), (11, 0, 4294967295), (11, 2147483648, 2147483655), (1, 2, 4294967296), (9, 0, 0)]
def E_a212_1 : e2_E := [(2147483648, 2147583648, 0, 0), (2147483652, 2147483668, 1, 0), (2147483648, 2147483669, 2, 0)]
noncomputable def h_a212_1 : ev_H := (an844 : e2_Q8)
noncomputable def cl_a212_e : List (Nat × e2_S) := [(51, e2_cutL (al_a212_1.set 5 (11, 2147483648, 2147483669)) 2 (E_a212_1.take 2) h_a212_1)]
set_option maxRecDepth 1000000 in
theorem ck_a212_e : e2_run (e2_cal S_a212 I_a212 4000 1) (e2_fin rs_a212) e2x_81 (e2_bpL cl_a212_e) (e2_cutA cl_a212_e) 4000 (e2_seek e2x_81 0) (e2_al 7 as_a212) [] E_a212 f_a212 = true := by decide +kernel
noncomputable def cl_a212_0 : List (Nat × e2_S) := [(51, e2_cutL (al_a212_0.set 5 (13, 10, 2147483669)) 2 (E_a212_0.take 2) h_a212_0)]
set_option maxRecDepth 1000000 in
theorem ck_a212_0 : e2_runM (e2_cal S_a212 I_a212 4000 1) (e2_fin rs_a212) e2x_81 (e2_bpL cl_a212_0) (e2_cutA cl_a212_0) 4000 (e2_seek e2x_81 51) al_a212_0 [] E_a212_0 h_a212_0 = true := by decide +kernel
set_option maxRecDepth 1000000 in
theorem ci_a212_0 : e2_idl 2 (al_a212_0.set 5 (9, 0, 0)) = true := by decide +kernel
set_option maxRecDepth 1000000 in
theorem cj_a212_0 : e2_idh 2 8 h_a212_0 = true := by decide +kernel
noncomputable def cl_a212_1 : List (Nat × e2_S) := [(51, e2_cutL (al_a212_0.set 5 (11, 2147483649, 2147483669)) 2 (E_a212_0.take 2) h_a212_0),
  (51, e2_cutL (al_a212_1.set 5 (13, 10, 2147483669)) 2 (E_a212_1.take 2) h_a212_1)]
set_option maxRecDepth 1000000 in
theorem ck_a212_1 : e2_runM (e2_cal S_a212 I_a212 4000 1) (e2_fin rs_a212) e2x_81 (e2_bpL cl_a212_1) (e2_cutA cl_a212_1) 4000 (e2_seek e2x_81 51) al_a212_1 [] E_a212_1 h_a212_1 = true := by decide +kernel
set_option maxRecDepth 1000000 in
theorem ci_a212_1 : e2_idl 2 (al_a212_1.set 5 (9, 0, 0)) = true := by decide +kernel
set_option maxRecDepth 1000000 in
theorem cj_a212_1 : e2_idh 2 8 h_a212_1 = true := by decide +kernel
theorem cs_a212 (hen : en_ok) (l : Launch) (hh : e2_hand_a l) : e2_smOk l 65 s_a212 := by
  refine e2_conG (H := 63) (n := 1) (C := evd_81) (S := S_a212) (I := I_a212) (fuel := 4000) hen ei_81 (e2_fa (cs_a208 hen l hh) (e2_fa (cs_a211 hen l hh) e2_fz)) (e2_fa ein_64 e2_fz) (by decide) co_a212 fun M d _ hC hcall p e R s m args below meth c Q D cA A ads r0 ha hl0 => ?_
  have L_0 : e2_gdM M p l e R s m args below meth c Q D cA A ads r0 51 al_a212_0 [] E_a212_0 h_a212_0 := by
    refine e2_indL (u := 2) (j := 5) (lo := 2147483649) (hi := 2147483669) (b := 2) (dd := 0) hl0 (by decide) rfl rfl (Or.inr ⟨rfl, rfl⟩) rfl ci_a212_0 cj_a212_0 ?_
    intro r_0 k_0 hk_0 hp_0 hs_0 hn_0
    have hl_0 : r_0.length ≤ 3 := hs_0.len rfl
    have ha_0 := ha.ext hp_0
    exact e2_fromM hen ha_0 hcall (e2_cutA_ok (e2_fa (fun al st E h hc => hn_0 al st E h hc) e2_fz)) (hC [60, 62]) (X := e2x_81) ex2_81 51 ck_a212_0
  have EN_0 := e2_entL (u := 2) (j := 5) (lo := 2147483649) (hi := 2147483669) hl0 rfl rfl rfl ci_a212_0 cj_a212_0 L_0
  have L_1 : e2_gdM M p l e R s m args below meth c Q D cA A ads r0 51 al_a212_1 [] E_a212_1 h_a212_1 := by
    refine e2_indL (u := 2) (j := 5) (lo := 2147483648) (hi := 2147483669) (b := 2) (dd := 0) hl0 (by decide) rfl rfl (Or.inr ⟨rfl, rfl⟩) rfl ci_a212_1 cj_a212_1 ?_
    intro r_1 k_1 hk_1 hp_1 hs_1 hn_1
    have hl_1 : r_1.length ≤ 3 := hs_1.len rfl
    have ha_1 := ha.ext hp_1
    exact e2_fromM hen ha_1 hcall (e2_cutA_ok (e2_fa (fun al st E h hc => (EN_0 al st E h hc).ext hp_1) (e2_fa (fun al st E h hc => hn_1 al st E h hc) e2_fz))) (hC [60, 62]) (X := e2x_81) ex2_81 51 ck_a212_1
  have EN_1 := e2_entL (u := 2) (j := 5) (lo := 2147483648) (hi := 2147483669) hl0 rfl rfl rfl ci_a212_1 cj_a212_1 L_1
  exact e2_from hen ha hcall (e2_cutA_ok (e2_fa (fun al st E h hc => EN_1 al st E h hc) e2_fz)) (hC [60, 62]) (X := e2x_81) ex2_81 0 ck_a212_e
/-! a213 X4_placeFrom -/
def as_a213 : List ev_V := [(2, 59, 0), (0, 0, 0), (0, 0, 0), (0, 0, 0)]
def E_a213 : e2_E := [(2147483648, 2147583648, 0, 0), (2147483652, 2147483668, 1, 0)]
noncomputable def f_a213 : ev_H := (an844 : e2_Q8)
noncomputable def q_a213_0 : ev_H := (an840 : e2_Q8)
noncomputable def q_a213_1 : ev_H := (an844 : e2_Q8)
noncomputable def rs_a213 : e2_Rs := [((11, 2147483648, 2147483649), q_a213_0), ((0, 0, 0), q_a213_1)]
noncomputable def s_a213 : e2_Sm := (81, as_a213, E_a213, f_a213, rs_a213)
noncomputable def S_a213 : List e2_Sm := [s_a209, s_a212]
noncomputable def I_a213 : List e2_In := [(64, 2, e2x_64)]
set_option maxRecDepth 1000000 in
theorem co_a213 : e2_okSB E_a213.length as_a213 f_a213 rs_a213 = true := by decide +kernel
def al_a213_0 : List ev_V := [(2, 59, 0), (0, 0, 0), (0, 0, 0), (0, 0, 0), (11, 2147483648, 2147483655), (1, 2, 4294967296), (11, 2147483648, 2147483668)]
def E_a213_0 : e2_E := [(2147483648, 2147583648, 0, 0), (2147483652, 2147483668, 1, 0), (2147483649, 2147483669, 2, 0)]
noncomputable def h_a213_0 : ev_H := (an840 : e2_Q8)
def al_a213_1 : List ev_V := [(2, 59, 0), (0, 0, 0), (0, 0, 0), (0, 0, 0), (11, 2147483648, 2147483655), (1, 2, 4294967296), (9, 0, 0)]
def E_a213_1 : e2_E := [(2147483648, 2147583648, 0, 0), (2147483652, 2147483668, 1, 0), (2147483648, 2147483669, 2, 0)]
noncomputable def h_a213_1 : ev_H := (an844 : e2_Q8)
noncomputable def cl_a213_e : List (Nat × e2_S) := [(51, e2_cutL (al_a213_1.set 5 (11, 2147483648, 2147483669)) 2 (E_a213_1.take 2) h_a213_1)]
set_option maxRecDepth 1000000 in
theorem ck_a213_e : e2_run (e2_cal S_a213 I_a213 4000 1) (e2_fin rs_a213) e2x_81 (e2_bpL cl_a213_e) (e2_cutA cl_a213_e) 4000 (e2_seek e2x_81 0) (e2_al 7 as_a213) [] E_a213 f_a213 = true := by decide +kernel
noncomputable def cl_a213_0 : List (Nat × e2_S) := [(51, e2_cutL (al_a213_0.set 5 (13, 10, 2147483669)) 2 (E_a213_0.take 2) h_a213_0)]
set_option maxRecDepth 1000000 in
theorem ck_a213_0 : e2_runM (e2_cal S_a213 I_a213 4000 1) (e2_fin rs_a213) e2x_81 (e2_bpL cl_a213_0) (e2_cutA cl_a213_0) 4000 (e2_seek e2x_81 51) al_a213_0 [] E_a213_0 h_a213_0 = true := by decide +kernel
set_option maxRecDepth 1000000 in
theorem ci_a213_0 : e2_idl 2 (al_a213_0.set 5 (9, 0, 0)) = true := by decide +kernel
set_option maxRecDepth 1000000 in
theorem cj_a213_0 : e2_idh 2 8 h_a213_0 = true := by decide +kernel
noncomputable def cl_a213_1 : List (Nat × e2_S) := [(51, e2_cutL (al_a213_0.set 5 (11, 2147483649, 2147483669)) 2 (E_a213_0.take 2) h_a213_0),
  (51, e2_cutL (al_a213_1.set 5 (13, 10, 2147483669)) 2 (E_a213_1.take 2) h_a213_1)]
set_option maxRecDepth 1000000 in
theorem ck_a213_1 : e2_runM (e2_cal S_a213 I_a213 4000 1) (e2_fin rs_a213) e2x_81 (e2_bpL cl_a213_1) (e2_cutA cl_a213_1) 4000 (e2_seek e2x_81 51) al_a213_1 [] E_a213_1 h_a213_1 = true := by decide +kernel
set_option maxRecDepth 1000000 in
theorem ci_a213_1 : e2_idl 2 (al_a213_1.set 5 (9, 0, 0)) = true := by decide +kernel
set_option maxRecDepth 1000000 in
theorem cj_a213_1 : e2_idh 2 8 h_a213_1 = true := by decide +kernel
theorem cs_a213 (hen : en_ok) (l : Launch) (hh : e2_hand_a l) : e2_smOk l 67 s_a213 := by
  refine e2_conG (H := 65) (n := 1) (C := evd_81) (S := S_a213) (I := I_a213) (fuel := 4000) hen ei_81 (e2_fa (cs_a209 hen l hh) (e2_fa (cs_a212 hen l hh) e2_fz)) (e2_fa ein_64 e2_fz) (by decide) co_a213 fun M d _ hC hcall p e R s m args below meth c Q D cA A ads r0 ha hl0 => ?_
  have L_0 : e2_gdM M p l e R s m args below meth c Q D cA A ads r0 51 al_a213_0 [] E_a213_0 h_a213_0 := by
    refine e2_indL (u := 2) (j := 5) (lo := 2147483649) (hi := 2147483669) (b := 2) (dd := 0) hl0 (by decide) rfl rfl (Or.inr ⟨rfl, rfl⟩) rfl ci_a213_0 cj_a213_0 ?_
    intro r_0 k_0 hk_0 hp_0 hs_0 hn_0
    have hl_0 : r_0.length ≤ 3 := hs_0.len rfl
    have ha_0 := ha.ext hp_0
    exact e2_fromM hen ha_0 hcall (e2_cutA_ok (e2_fa (fun al st E h hc => hn_0 al st E h hc) e2_fz)) (hC [60, 62]) (X := e2x_81) ex2_81 51 ck_a213_0
  have EN_0 := e2_entL (u := 2) (j := 5) (lo := 2147483649) (hi := 2147483669) hl0 rfl rfl rfl ci_a213_0 cj_a213_0 L_0
  have L_1 : e2_gdM M p l e R s m args below meth c Q D cA A ads r0 51 al_a213_1 [] E_a213_1 h_a213_1 := by
    refine e2_indL (u := 2) (j := 5) (lo := 2147483648) (hi := 2147483669) (b := 2) (dd := 0) hl0 (by decide) rfl rfl (Or.inr ⟨rfl, rfl⟩) rfl ci_a213_1 cj_a213_1 ?_
    intro r_1 k_1 hk_1 hp_1 hs_1 hn_1
    have hl_1 : r_1.length ≤ 3 := hs_1.len rfl
    have ha_1 := ha.ext hp_1
    exact e2_fromM hen ha_1 hcall (e2_cutA_ok (e2_fa (fun al st E h hc => (EN_0 al st E h hc).ext hp_1) (e2_fa (fun al st E h hc => hn_1 al st E h hc) e2_fz))) (hC [60, 62]) (X := e2x_81) ex2_81 51 ck_a213_1
  have EN_1 := e2_entL (u := 2) (j := 5) (lo := 2147483648) (hi := 2147483669) hl0 rfl rfl rfl ci_a213_1 cj_a213_1 L_1
  exact e2_from hen ha hcall (e2_cutA_ok (e2_fa (fun al st E h hc => EN_1 al st E h hc) e2_fz)) (hC [60, 62]) (X := e2x_81) ex2_81 0 ck_a213_e
/-! a214 X4_placeFor -/
def as_a214 : List ev_V := [(2, 59, 0), (11, 2147483648, 2147483655), (11, 2147483647, 2147483655), (11, 2147483647, 2147483655)]
def E_a214 : e2_E := [(2147483648, 2147583648, 0, 0), (2147483652, 2147483668, 1, 0)]
def ac184 : ev_C := (50, [(11, 2147483647, 2147483655), (11, 2147483647, 2147483655), (11, 2147483647, 2147483655)])
def an845 : e2_Q1 := (ac184, ac3)
def an846 : e2_Q2 := (an0, an845)
def an847 : e2_Q3 := (an846, an5)
def an848 : e2_Q4 := (an847, an13)
def an849 : e2_Q5 := (an848, an359)
def an850 : e2_Q6 := (an849, an744)
def an851 : e2_Q7 := (an850, an383)
def an852 : e2_Q8 := (an851, an690)
noncomputable def f_a214 : ev_H := (an852 : e2_Q8)
def ac185 : ev_C := (50, [(11, 2147483648, 2147483655), (11, 2147483647, 2147483655), (11, 2147483647, 2147483655)])
def an853 : e2_Q1 := (ac185, ac3)
def an854 : e2_Q2 := (an0, an853)
def an855 : e2_Q3 := (an854, an5)
def an856 : e2_Q4 := (an855, an13)
def an857 : e2_Q5 := (an856, an359)
def an858 : e2_Q6 := (an857, an744)
def an859 : e2_Q7 := (an858, an383)
def ac186 : ev_C := (4, [(2, 65, 0), (2, 63, 0), (2, 1, 0), (11, 0, 4294967295), (2, 62, 0), (11, 0, 4294967295), (11, 2147483648, 2147483668), (2, 60, 0), (11, 2147483648, 2147483668), (11, 0, 4294967295), (11, 0, 4294967295), (2, 61, 0), (2, 64, 0), (11, 2147483649, 2147483651)])
def an860 : e2_Q1 := (ac186, ac3)
def an861 : e2_Q2 := (an860, an216)
def an862 : e2_Q3 := (an214, an861)
def an863 : e2_Q4 := (an394, an862)
def an864 : e2_Q5 := (an323, an863)
def an865 : e2_Q6 := (an864, an398)
def an866 : e2_Q7 := (an392, an865)
def an867 : e2_Q8 := (an859, an866)
noncomputable def q_a214_0 : ev_H := (an867 : e2_Q8)
def an868 : e2_Q6 := (an864, an415)
def an869 : e2_Q7 := (an411, an868)
def an870 : e2_Q8 := (an859, an869)
noncomputable def q_a214_1 : ev_H := (an870 : e2_Q8)
noncomputable def rs_a214 : e2_Rs := [((0, 4294967295, 0), q_a214_0), ((11, 2147483647, 2147483837), q_a214_1)]
noncomputable def s_a214 : e2_Sm := (80, as_a214, E_a214, f_a214, rs_a214)
noncomputable def S_a214 : List e2_Sm := [s_a201, s_a206, s_a213]
noncomputable def I_a214 : List e2_In := [(122, 2, e2x_122), (159, 2, e2x_159), (291, 1, e2x_291)]
set_option maxRecDepth 1000000 in
theorem ck_a214 : e2_run (e2_cal S_a214 I_a214 4000 2) (e2_fin rs_a214) e2x_80 (fun _ => false) (fun _ _ _ _ _ => false) 4000 (e2_seek e2x_80 0) (e2_al 6 as_a214) [] E_a214 f_a214 = true := by decide +kernel
set_option maxRecDepth 1000000 in
theorem co_a214 : e2_okSB E_a214.length as_a214 f_a214 rs_a214 = true := by decide +kernel
theorem cs_a214 (hen : en_ok) (l : Launch) (hh : e2_hand_a l) : e2_smOk l 70 s_a214 := e2_con0 (H := 67) (n := 2) (C := evd_80) (S := S_a214) (I := I_a214) (fuel := 4000) [] hen ei_80 (e2_fa ((cs_a201 hen l hh).mono (by decide)) (e2_fa ((cs_a206 hen l hh).mono (by decide)) (e2_fa (cs_a213 hen l hh) e2_fz))) (e2_fa ein_122 (e2_fa ein_159 (e2_fa ein_291 e2_fz))) (by decide) co_a214 ex2_80 ck_a214
/-! a215 X4_harmfulCells -/
def as_a215 : List ev_V := [(2, 59, 0)]
def E_a215 : e2_E := [(2147483648, 2147583648, 0, 0), (2147483652, 2147483668, 1, 0)]
noncomputable def f_a215 : ev_H := (an691 : e2_Q8)
noncomputable def q_a215_0 : ev_H := (an694 : e2_Q8)
noncomputable def q_a215_1 : ev_H := (an691 : e2_Q8)
noncomputable def rs_a215 : e2_Rs := [((11, 0, 4294967295), q_a215_0), ((0, 0, 0), q_a215_1)]
noncomputable def s_a215 : e2_Sm := (82, as_a215, E_a215, f_a215, rs_a215)
noncomputable def S_a215 : List e2_Sm := [s_a178, s_a179]
noncomputable def I_a215 : List e2_In := [(159, 2, e2x_159)]
set_option maxRecDepth 1000000 in
theorem co_a215 : e2_okSB E_a215.length as_a215 f_a215 rs_a215 = true := by decide +kernel
def al_a215_0 : List ev_V := [(2, 59, 0), (11, 0, 4294967295), (1, 2, 4294967296)]
def E_a215_0 : e2_E := [(2147483648, 2147583648, 0, 0), (2147483652, 2147483668, 1, 0), (2147483649, 2147483668, 2, 0)]
noncomputable def h_a215_0 : ev_H := (an694 : e2_Q8)
def al_a215_1 : List ev_V := [(2, 59, 0), (0, 0, 0), (1, 2, 4294967296)]
def E_a215_1 : e2_E := [(2147483648, 2147583648, 0, 0), (2147483652, 2147483668, 1, 0), (2147483648, 2147483668, 2, 0)]
noncomputable def h_a215_1 : ev_H := (an691 : e2_Q8)
noncomputable def cl_a215_e : List (Nat × e2_S) := [(4, e2_cutL (al_a215_1.set 2 (11, 2147483648, 2147483668)) 2 (E_a215_1.take 2) h_a215_1)]
set_option maxRecDepth 1000000 in
theorem ck_a215_e : e2_run (e2_cal S_a215 I_a215 4000 1) (e2_fin rs_a215) e2x_82 (e2_bpL cl_a215_e) (e2_cutA cl_a215_e) 4000 (e2_seek e2x_82 0) (e2_al 3 as_a215) [] E_a215 f_a215 = true := by decide +kernel
noncomputable def cl_a215_0 : List (Nat × e2_S) := [(4, e2_cutL (al_a215_0.set 2 (13, 10, 2147483668)) 2 (E_a215_0.take 2) h_a215_0)]
set_option maxRecDepth 1000000 in
theorem ck_a215_0 : e2_runM (e2_cal S_a215 I_a215 4000 1) (e2_fin rs_a215) e2x_82 (e2_bpL cl_a215_0) (e2_cutA cl_a215_0) 4000 (e2_seek e2x_82 4) al_a215_0 [] E_a215_0 h_a215_0 = true := by decide +kernel
set_option maxRecDepth 1000000 in
theorem ci_a215_0 : e2_idl 2 (al_a215_0.set 2 (9, 0, 0)) = true := by decide +kernel
set_option maxRecDepth 1000000 in
theorem cj_a215_0 : e2_idh 2 8 h_a215_0 = true := by decide +kernel
noncomputable def cl_a215_1 : List (Nat × e2_S) := [(4, e2_cutL (al_a215_0.set 2 (11, 2147483649, 2147483668)) 2 (E_a215_0.take 2) h_a215_0),
  (4, e2_cutL (al_a215_1.set 2 (13, 10, 2147483668)) 2 (E_a215_1.take 2) h_a215_1)]
set_option maxRecDepth 1000000 in
theorem ck_a215_1 : e2_runM (e2_cal S_a215 I_a215 4000 1) (e2_fin rs_a215) e2x_82 (e2_bpL cl_a215_1) (e2_cutA cl_a215_1) 4000 (e2_seek e2x_82 4) al_a215_1 [] E_a215_1 h_a215_1 = true := by decide +kernel
set_option maxRecDepth 1000000 in
theorem ci_a215_1 : e2_idl 2 (al_a215_1.set 2 (9, 0, 0)) = true := by decide +kernel
set_option maxRecDepth 1000000 in
theorem cj_a215_1 : e2_idh 2 8 h_a215_1 = true := by decide +kernel
theorem cs_a215 (hen : en_ok) (l : Launch) (hh : e2_hand_a l) : e2_smOk l 63 s_a215 := by
  refine e2_conG (H := 61) (n := 1) (C := evd_82) (S := S_a215) (I := I_a215) (fuel := 4000) hen ei_82 (e2_fa (cs_a178 hen l hh) (e2_fa (cs_a179 hen l hh) e2_fz)) (e2_fa ein_159 e2_fz) (by decide) co_a215 fun M d _ hC hcall p e R s m args below meth c Q D cA A ads r0 ha hl0 => ?_
  have L_0 : e2_gdM M p l e R s m args below meth c Q D cA A ads r0 4 al_a215_0 [] E_a215_0 h_a215_0 := by
    refine e2_indL (u := 2) (j := 2) (lo := 2147483649) (hi := 2147483668) (b := 2) (dd := 0) hl0 (by decide) rfl rfl (Or.inr ⟨rfl, rfl⟩) rfl ci_a215_0 cj_a215_0 ?_
    intro r_0 k_0 hk_0 hp_0 hs_0 hn_0
    have hl_0 : r_0.length ≤ 3 := hs_0.len rfl
    have ha_0 := ha.ext hp_0
    exact e2_fromM hen ha_0 hcall (e2_cutA_ok (e2_fa (fun al st E h hc => hn_0 al st E h hc) e2_fz)) (hC []) (X := e2x_82) ex2_82 4 ck_a215_0
  have EN_0 := e2_entL (u := 2) (j := 2) (lo := 2147483649) (hi := 2147483668) hl0 rfl rfl rfl ci_a215_0 cj_a215_0 L_0
  have L_1 : e2_gdM M p l e R s m args below meth c Q D cA A ads r0 4 al_a215_1 [] E_a215_1 h_a215_1 := by
    refine e2_indL (u := 2) (j := 2) (lo := 2147483648) (hi := 2147483668) (b := 2) (dd := 0) hl0 (by decide) rfl rfl (Or.inr ⟨rfl, rfl⟩) rfl ci_a215_1 cj_a215_1 ?_
    intro r_1 k_1 hk_1 hp_1 hs_1 hn_1
    have hl_1 : r_1.length ≤ 3 := hs_1.len rfl
    have ha_1 := ha.ext hp_1
    exact e2_fromM hen ha_1 hcall (e2_cutA_ok (e2_fa (fun al st E h hc => (EN_0 al st E h hc).ext hp_1) (e2_fa (fun al st E h hc => hn_1 al st E h hc) e2_fz))) (hC []) (X := e2x_82) ex2_82 4 ck_a215_1
  have EN_1 := e2_entL (u := 2) (j := 2) (lo := 2147483648) (hi := 2147483668) hl0 rfl rfl rfl ci_a215_1 cj_a215_1 L_1
  exact e2_from hen ha hcall (e2_cutA_ok (e2_fa (fun al st E h hc => EN_1 al st E h hc) e2_fz)) (hC []) (X := e2x_82) ex2_82 0 ck_a215_e
/-! a216 X4_losingCells -/
def as_a216 : List ev_V := [(2, 59, 0), (11, 2147483648, 2147483651)]
def E_a216 : e2_E := [(2147483648, 2147583648, 0, 0), (2147483652, 2147483668, 1, 0)]
noncomputable def f_a216 : ev_H := (an704 : e2_Q8)
noncomputable def q_a216_0 : ev_H := (an711 : e2_Q8)
noncomputable def rs_a216 : e2_Rs := [((11, 0, 4294967295), q_a216_0)]
noncomputable def s_a216 : e2_Sm := (83, as_a216, E_a216, f_a216, rs_a216)
noncomputable def S_a216 : List e2_Sm := [s_a181, s_a182]
noncomputable def I_a216 : List e2_In := [(159, 2, e2x_159)]
set_option maxRecDepth 1000000 in
theorem co_a216 : e2_okSB E_a216.length as_a216 f_a216 rs_a216 = true := by decide +kernel
def al_a216_0 : List ev_V := [(2, 59, 0), (11, 2147483648, 2147483651), (11, 0, 4294967295), (11, 0, 4294967295), (1, 2, 4294967296)]
def E_a216_0 : e2_E := [(2147483648, 2147583648, 0, 0), (2147483652, 2147483668, 1, 0), (2147483648, 2147483668, 2, 0)]
noncomputable def h_a216_0 : ev_H := (an711 : e2_Q8)
noncomputable def cl_a216_e : List (Nat × e2_S) := [(15, e2_cutL (al_a216_0.set 4 (11, 2147483648, 2147483668)) 2 (E_a216_0.take 2) h_a216_0)]
set_option maxRecDepth 1000000 in
theorem ck_a216_e : e2_run (e2_cal S_a216 I_a216 4000 1) (e2_fin rs_a216) e2x_83 (e2_bpL cl_a216_e) (e2_cutA cl_a216_e) 4000 (e2_seek e2x_83 0) (e2_al 5 as_a216) [] E_a216 f_a216 = true := by decide +kernel
noncomputable def cl_a216_0 : List (Nat × e2_S) := [(15, e2_cutL (al_a216_0.set 4 (13, 10, 2147483668)) 2 (E_a216_0.take 2) h_a216_0)]
set_option maxRecDepth 1000000 in
theorem ck_a216_0 : e2_runM (e2_cal S_a216 I_a216 4000 1) (e2_fin rs_a216) e2x_83 (e2_bpL cl_a216_0) (e2_cutA cl_a216_0) 4000 (e2_seek e2x_83 15) al_a216_0 [] E_a216_0 h_a216_0 = true := by decide +kernel
set_option maxRecDepth 1000000 in
theorem ci_a216_0 : e2_idl 2 (al_a216_0.set 4 (9, 0, 0)) = true := by decide +kernel
set_option maxRecDepth 1000000 in
theorem cj_a216_0 : e2_idh 2 8 h_a216_0 = true := by decide +kernel
theorem cs_a216 (hen : en_ok) (l : Launch) (hh : e2_hand_a l) : e2_smOk l 63 s_a216 := by
  refine e2_conG (H := 61) (n := 1) (C := evd_83) (S := S_a216) (I := I_a216) (fuel := 4000) hen ei_83 (e2_fa (cs_a181 hen l hh) (e2_fa (cs_a182 hen l hh) e2_fz)) (e2_fa ein_159 e2_fz) (by decide) co_a216 fun M d _ hC hcall p e R s m args below meth c Q D cA A ads r0 ha hl0 => ?_
  have L_0 : e2_gdM M p l e R s m args below meth c Q D cA A ads r0 15 al_a216_0 [] E_a216_0 h_a216_0 := by
    refine e2_indL (u := 2) (j := 4) (lo := 2147483648) (hi := 2147483668) (b := 2) (dd := 0) hl0 (by decide) rfl rfl (Or.inr ⟨rfl, rfl⟩) rfl ci_a216_0 cj_a216_0 ?_
    intro r_0 k_0 hk_0 hp_0 hs_0 hn_0
    have hl_0 : r_0.length ≤ 3 := hs_0.len rfl
    have ha_0 := ha.ext hp_0
    exact e2_fromM hen ha_0 hcall (e2_cutA_ok (e2_fa (fun al st E h hc => hn_0 al st E h hc) e2_fz)) (hC []) (X := e2x_83) ex2_83 15 ck_a216_0
  have EN_0 := e2_entL (u := 2) (j := 4) (lo := 2147483648) (hi := 2147483668) hl0 rfl rfl rfl ci_a216_0 cj_a216_0 L_0
  exact e2_from hen ha hcall (e2_cutA_ok (e2_fa (fun al st E h hc => EN_0 al st E h hc) e2_fz)) (hC []) (X := e2x_83) ex2_83 0 ck_a216_e
