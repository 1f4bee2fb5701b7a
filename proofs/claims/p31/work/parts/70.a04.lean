/-! CONTRACTS a, printed by a program -/
/-! a174 X5_weighEverywhere -/
def as_a174 : List ev_V := [(2, 65, 0), (11, 2147483648, 2147483655), (0, 4294967295, 0)]
def E_a174 : e2_E := [(2147483648, 2147583648, 0, 0), (2147483652, 2147483668, 1, 0)]
def an607 : e2_Q4 := (an370, an76)
def an608 : e2_Q5 := (an607, an92)
def an609 : e2_Q6 := (an608, an124)
def an610 : e2_Q7 := (an441, an609)
def an611 : e2_Q5 := (an388, an156)
def an612 : e2_Q6 := (an611, an452)
def an613 : e2_Q7 := (an612, an497)
def an614 : e2_Q8 := (an610, an613)
noncomputable def f_a174 : ev_H := (an614 : e2_Q8)
noncomputable def q_a174_0 : ev_H := (an614 : e2_Q8)
noncomputable def rs_a174 : e2_Rs := [((9, 0, 0), q_a174_0)]
noncomputable def s_a174 : e2_Sm := (87, as_a174, E_a174, f_a174, rs_a174)
noncomputable def S_a174 : List e2_Sm := [s_a12]
noncomputable def I_a174 : List e2_In := [(160, 2, e2x_160)]
set_option maxRecDepth 1000000 in
theorem co_a174 : e2_okSB E_a174.length as_a174 f_a174 rs_a174 = true := by decide +kernel
def al_a174_0 : List ev_V := [(2, 65, 0), (11, 2147483648, 2147483655), (0, 4294967295, 0), (1, 2, 4294967296)]
def E_a174_0 : e2_E := [(2147483648, 2147583648, 0, 0), (2147483652, 2147483668, 1, 0), (2147483648, 2147483668, 2, 0)]
noncomputable def h_a174_0 : ev_H := (an614 : e2_Q8)
noncomputable def cl_a174_e : List (Nat × e2_S) := [(2, e2_cutL (al_a174_0.set 3 (11, 2147483648, 2147483668)) 2 (E_a174_0.take 2) h_a174_0)]
set_option maxRecDepth 1000000 in
theorem ck_a174_e : e2_run (e2_cal S_a174 I_a174 4000 1) (e2_fin rs_a174) e2x_87 (e2_bpL cl_a174_e) (e2_cutA cl_a174_e) 4000 (e2_seek e2x_87 0) (e2_al 4 as_a174) [] E_a174 f_a174 = true := by decide +kernel
noncomputable def cl_a174_0 : List (Nat × e2_S) := [(2, e2_cutL (al_a174_0.set 3 (13, 10, 2147483668)) 2 (E_a174_0.take 2) h_a174_0)]
set_option maxRecDepth 1000000 in
theorem ck_a174_0 : e2_runM (e2_cal S_a174 I_a174 4000 1) (e2_fin rs_a174) e2x_87 (e2_bpL cl_a174_0) (e2_cutA cl_a174_0) 4000 (e2_seek e2x_87 2) al_a174_0 [] E_a174_0 h_a174_0 = true := by decide +kernel
set_option maxRecDepth 1000000 in
theorem ci_a174_0 : e2_idl 2 (al_a174_0.set 3 (9, 0, 0)) = true := by decide +kernel
set_option maxRecDepth 1000000 in
theorem cj_a174_0 : e2_idh 2 8 h_a174_0 = true := by decide +kernel
theorem cs_a174 (hen : en_ok) (l : Launch) : e2_smOk l 4 s_a174 := by
  refine e2_conG (H := 2) (n := 1) (C := evd_87) (S := S_a174) (I := I_a174) (fuel := 4000) hen ei_87 (e2_fa (cs_a12 hen l) e2_fz) (e2_fa ein_160 e2_fz) (by decide) co_a174 fun M d _ hC hcall p e R s m args below meth c Q D cA A ads r0 ha hl0 => ?_
  have L_0 : e2_gdM M p l e R s m args below meth c Q D cA A ads r0 2 al_a174_0 [] E_a174_0 h_a174_0 := by
    refine e2_indL (u := 2) (j := 3) (lo := 2147483648) (hi := 2147483668) (b := 2) (dd := 0) hl0 (by decide) rfl rfl (Or.inr ⟨rfl, rfl⟩) rfl ci_a174_0 cj_a174_0 ?_
    intro r_0 k_0 hk_0 hp_0 hs_0 hn_0
    have hl_0 : r_0.length ≤ 3 := hs_0.len rfl
    have ha_0 := ha.ext hp_0
    exact e2_fromM hen ha_0 hcall (e2_cutA_ok (e2_fa (fun al st E h hc => hn_0 al st E h hc) e2_fz)) (hC []) (X := e2x_87) ex2_87 2 ck_a174_0
  have EN_0 := e2_entL (u := 2) (j := 3) (lo := 2147483648) (hi := 2147483668) hl0 rfl rfl rfl ci_a174_0 cj_a174_0 L_0
  exact e2_from hen ha hcall (e2_cutA_ok (e2_fa (fun al st E h hc => EN_0 al st E h hc) e2_fz)) (hC []) (X := e2x_87) ex2_87 0 ck_a174_e
/-! a175 X5_begin -/
def as_a175 : List ev_V := [(2, 65, 0), (2, 1, 0), (2, 36, 0), (0, 4294967295, 0)]
def E_a175 : e2_E := [(2147483648, 2147583648, 0, 0), (2147483652, 2147483668, 1, 0)]
def ac170 : ev_C := (6, [(11, 0, 4294967295), (11, 0, 4294967295), (11, 0, 4294967295), (2, 38, 0), (2, 37, 0), (2, 39, 0)])
def an615 : e2_Q1 := (ac170, ac3)
def an616 : e2_Q2 := (an615, an35)
def an617 : e2_Q3 := (an265, an616)
def an618 : e2_Q4 := (an617, an44)
def an619 : e2_Q5 := (an618, an439)
def an620 : e2_Q6 := (an360, an619)
def an621 : e2_Q5 := (an373, an92)
def an622 : e2_Q6 := (an621, an382)
def an623 : e2_Q7 := (an620, an622)
def ac171 : ev_C := (5, [(2, 68, 0), (11, 0, 4294967295), (2, 69, 0), (2, 72, 0), (7, 0, 0), (2, 70, 0), (11, 2147483648, 2147483649), (2, 67, 0), (11, 2147483648, 2147483668), (2, 71, 0), (2, 66, 0), (2, 73, 0), (2, 74, 0), (2, 75, 0), (2, 76, 0)])
def an624 : e2_Q1 := (ac171, ac3)
def an625 : e2_Q2 := (an298, an624)
def an626 : e2_Q3 := (an625, an132)
def an627 : e2_Q4 := (an626, an140)
def an628 : e2_Q5 := (an627, an156)
def an629 : e2_Q2 := (an158, an309)
def ac172 : ev_C := (54, [(0, 4, 0), (11, 0, 4294967295)])
def an630 : e2_Q1 := (ac172, ac3)
def an631 : e2_Q2 := (an630, an162)
def an632 : e2_Q3 := (an629, an631)
def an633 : e2_Q4 := (an632, an314)
def an634 : e2_Q5 := (an633, an451)
def an635 : e2_Q6 := (an628, an634)
def an636 : e2_Q4 := (an494, an322)
def an637 : e2_Q5 := (an636, an457)
def ac173 : ev_C := (54, [(0, 8, 0), (11, 2147483648, 2147483651)])
def an638 : e2_Q1 := (ac173, ac3)
def an639 : e2_Q2 := (an638, an312)
def an640 : e2_Q3 := (an639, an226)
def an641 : e2_Q4 := (an640, an234)
def an642 : e2_Q5 := (an641, an250)
def an643 : e2_Q6 := (an637, an642)
def an644 : e2_Q7 := (an635, an643)
def an645 : e2_Q8 := (an623, an644)
noncomputable def f_a175 : ev_H := (an645 : e2_Q8)
def an646 : e2_Q3 := (an361, an616)
def an647 : e2_Q4 := (an646, an44)
def an648 : e2_Q5 := (an647, an439)
def an649 : e2_Q6 := (an360, an648)
def an650 : e2_Q7 := (an649, an622)
def an651 : e2_Q6 := (an611, an634)
def an652 : e2_Q7 := (an651, an643)
def an653 : e2_Q8 := (an650, an652)
noncomputable def q_a175_0 : ev_H := (an653 : e2_Q8)
noncomputable def rs_a175 : e2_Rs := [((9, 0, 0), q_a175_0)]
noncomputable def s_a175 : e2_Sm := (86, as_a175, E_a175, f_a175, rs_a175)
noncomputable def S_a175 : List e2_Sm := [s_a174]
noncomputable def I_a175 : List e2_In := []
set_option maxRecDepth 1000000 in
theorem co_a175 : e2_okSB E_a175.length as_a175 f_a175 rs_a175 = true := by decide +kernel
def al_a175_0 : List ev_V := [(2, 65, 0), (2, 1, 0), (2, 36, 0), (0, 4294967295, 0), (1, 1, 4294967296), (1, 2, 4294967296)]
def E_a175_0 : e2_E := [(2147483648, 2147583648, 0, 0), (2147483652, 2147483668, 1, 0), (2147483648, 2147483656, 2, 0)]
noncomputable def h_a175_0 : ev_H := (an653 : e2_Q8)
noncomputable def cl_a175_e : List (Nat × e2_S) := [(74, e2_cutL (al_a175_0.set 5 (11, 2147483648, 2147483656)) 2 (E_a175_0.take 2) h_a175_0)]
set_option maxRecDepth 1000000 in
theorem ck_a175_e : e2_run (e2_cal S_a175 I_a175 4000 0) (e2_fin rs_a175) e2x_86 (e2_bpL cl_a175_e) (e2_cutA cl_a175_e) 4000 (e2_seek e2x_86 0) (e2_al 6 as_a175) [] E_a175 f_a175 = true := by decide +kernel
noncomputable def cl_a175_0 : List (Nat × e2_S) := [(74, e2_cutL (al_a175_0.set 5 (13, 10, 2147483656)) 2 (E_a175_0.take 2) h_a175_0)]
set_option maxRecDepth 1000000 in
theorem ck_a175_0 : e2_runM (e2_cal S_a175 I_a175 4000 0) (e2_fin rs_a175) e2x_86 (e2_bpL cl_a175_0) (e2_cutA cl_a175_0) 4000 (e2_seek e2x_86 74) al_a175_0 [] E_a175_0 h_a175_0 = true := by decide +kernel
set_option maxRecDepth 1000000 in
theorem ci_a175_0 : e2_idl 2 (al_a175_0.set 5 (9, 0, 0)) = true := by decide +kernel
set_option maxRecDepth 1000000 in
theorem cj_a175_0 : e2_idh 2 8 h_a175_0 = true := by decide +kernel
theorem cs_a175 (hen : en_ok) (l : Launch) : e2_smOk l 5 s_a175 := by
  refine e2_conG (H := 4) (n := 0) (C := evd_86) (S := S_a175) (I := I_a175) (fuel := 4000) hen ei_86 (e2_fa (cs_a174 hen l) e2_fz) e2_fz (by decide) co_a175 fun M d _ hC hcall p e R s m args below meth c Q D cA A ads r0 ha hl0 => ?_
  have L_0 : e2_gdM M p l e R s m args below meth c Q D cA A ads r0 74 al_a175_0 [] E_a175_0 h_a175_0 := by
    refine e2_indL (u := 2) (j := 5) (lo := 2147483648) (hi := 2147483656) (b := 2) (dd := 0) hl0 (by decide) rfl rfl (Or.inr ⟨rfl, rfl⟩) rfl ci_a175_0 cj_a175_0 ?_
    intro r_0 k_0 hk_0 hp_0 hs_0 hn_0
    have hl_0 : r_0.length ≤ 3 := hs_0.len rfl
    have ha_0 := ha.ext hp_0
    exact e2_fromM hen ha_0 hcall (e2_cutA_ok (e2_fa (fun al st E h hc => hn_0 al st E h hc) e2_fz)) (hC []) (X := e2x_86) ex2_86 74 ck_a175_0
  have EN_0 := e2_entL (u := 2) (j := 5) (lo := 2147483648) (hi := 2147483656) hl0 rfl rfl rfl ci_a175_0 cj_a175_0 L_0
  exact e2_from hen ha hcall (e2_cutA_ok (e2_fa (fun al st E h hc => EN_0 al st E h hc) e2_fz)) (hC []) (X := e2x_86) ex2_86 0 ck_a175_e
/-! a176 X4_begin -/
def as_a176 : List ev_V := [(2, 59, 0), (2, 1, 0), (2, 36, 0)]
def E_a176 : e2_E := [(2147483648, 2147583648, 0, 0), (2147483652, 2147483668, 1, 0)]
def ac174 : ev_C := (4, [(2, 65, 0), (2, 63, 0), (7, 0, 0), (11, 0, 4294967295), (2, 62, 0), (11, 0, 4294967295), (11, 2147483648, 2147483668), (2, 60, 0), (11, 2147483648, 2147483668), (11, 0, 4294967295), (11, 0, 4294967295), (2, 61, 0), (2, 64, 0), (11, 2147483648, 2147483651)])
def an654 : e2_Q1 := (ac174, ac3)
def an655 : e2_Q2 := (an654, an216)
def an656 : e2_Q3 := (an214, an655)
def an657 : e2_Q4 := (an456, an656)
def an658 : e2_Q5 := (an636, an657)
def an659 : e2_Q6 := (an658, an642)
def an660 : e2_Q7 := (an635, an659)
def an661 : e2_Q8 := (an623, an660)
noncomputable def f_a176 : ev_H := (an661 : e2_Q8)
def ac175 : ev_C := (4, [(2, 65, 0), (2, 63, 0), (2, 1, 0), (11, 0, 4294967295), (2, 62, 0), (11, 0, 4294967295), (11, 2147483648, 2147483668), (2, 60, 0), (11, 2147483648, 2147483668), (11, 0, 4294967295), (11, 0, 4294967295), (2, 61, 0), (2, 64, 0), (11, 2147483648, 2147483651)])
def an662 : e2_Q1 := (ac175, ac3)
def an663 : e2_Q2 := (an662, an216)
def an664 : e2_Q3 := (an214, an663)
def an665 : e2_Q4 := (an456, an664)
def an666 : e2_Q5 := (an636, an665)
def an667 : e2_Q6 := (an666, an642)
def an668 : e2_Q7 := (an651, an667)
def an669 : e2_Q8 := (an650, an668)
noncomputable def q_a176_0 : ev_H := (an669 : e2_Q8)
noncomputable def rs_a176 : e2_Rs := [((9, 0, 0), q_a176_0)]
noncomputable def s_a176 : e2_Sm := (66, as_a176, E_a176, f_a176, rs_a176)
noncomputable def S_a176 : List e2_Sm := [s_a175]
noncomputable def I_a176 : List e2_In := []
set_option maxRecDepth 1000000 in
theorem ck_a176 : e2_run (e2_cal S_a176 I_a176 4000 0) (e2_fin rs_a176) e2x_66 (fun _ => false) (fun _ _ _ _ _ => false) 4000 (e2_seek e2x_66 0) (e2_al 3 as_a176) [] E_a176 f_a176 = true := by decide +kernel
set_option maxRecDepth 1000000 in
theorem co_a176 : e2_okSB E_a176.length as_a176 f_a176 rs_a176 = true := by decide +kernel
theorem cs_a176 (hen : en_ok) (l : Launch) : e2_smOk l 6 s_a176 := e2_con0 (H := 5) (n := 0) (C := evd_66) (S := S_a176) (I := I_a176) (fuel := 4000) [] hen ei_66 (e2_fa (cs_a175 hen l) e2_fz) e2_fz (by decide) co_a176 ex2_66 ck_a176
/-! a177 X5_takesAway -/
def as_a177 : List ev_V := [(2, 65, 0)]
def E_a177 : e2_E := [(2147483648, 2147583648, 0, 0), (2147483652, 2147483668, 1, 0)]
def an670 : e2_Q2 := (an259, an16)
def an671 : e2_Q3 := (an670, an20)
def an672 : e2_Q4 := (an671, an28)
def an673 : e2_Q5 := (an14, an672)
def an674 : e2_Q5 := (an45, an366)
def an675 : e2_Q6 := (an673, an674)
def an676 : e2_Q7 := (an675, an429)
def an677 : e2_Q5 := (an405, an156)
def an678 : e2_Q6 := (an677, an188)
def an679 : e2_Q7 := (an678, an433)
def an680 : e2_Q8 := (an676, an679)
noncomputable def f_a177 : ev_H := (an680 : e2_Q8)
noncomputable def q_a177_0 : ev_H := (an680 : e2_Q8)
noncomputable def rs_a177 : e2_Rs := [((11, 2147483648, 2147483649), q_a177_0)]
noncomputable def s_a177 : e2_Sm := (96, as_a177, E_a177, f_a177, rs_a177)
noncomputable def S_a177 : List e2_Sm := []
noncomputable def I_a177 : List e2_In := []
set_option maxRecDepth 1000000 in
theorem co_a177 : e2_okSB E_a177.length as_a177 f_a177 rs_a177 = true := by decide +kernel
def al_a177_0 : List ev_V := [(2, 65, 0), (1, 2, 4294967296)]
def E_a177_0 : e2_E := [(2147483648, 2147583648, 0, 0), (2147483652, 2147483668, 1, 0), (2147483648, 2147483668, 2, 0)]
noncomputable def h_a177_0 : ev_H := (an680 : e2_Q8)
noncomputable def cl_a177_e : List (Nat × e2_S) := [(2, e2_cutL (al_a177_0.set 1 (11, 2147483648, 2147483668)) 2 (E_a177_0.take 2) h_a177_0)]
set_option maxRecDepth 1000000 in
theorem ck_a177_e : e2_run (e2_cal S_a177 I_a177 4000 0) (e2_fin rs_a177) e2x_96 (e2_bpL cl_a177_e) (e2_cutA cl_a177_e) 4000 (e2_seek e2x_96 0) (e2_al 2 as_a177) [] E_a177 f_a177 = true := by decide +kernel
noncomputable def cl_a177_0 : List (Nat × e2_S) := [(2, e2_cutL (al_a177_0.set 1 (13, 10, 2147483668)) 2 (E_a177_0.take 2) h_a177_0)]
set_option maxRecDepth 1000000 in
theorem ck_a177_0 : e2_runM (e2_cal S_a177 I_a177 4000 0) (e2_fin rs_a177) e2x_96 (e2_bpL cl_a177_0) (e2_cutA cl_a177_0) 4000 (e2_seek e2x_96 2) al_a177_0 [] E_a177_0 h_a177_0 = true := by decide +kernel
set_option maxRecDepth 1000000 in
theorem ci_a177_0 : e2_idl 2 (al_a177_0.set 1 (9, 0, 0)) = true := by decide +kernel
set_option maxRecDepth 1000000 in
theorem cj_a177_0 : e2_idh 2 8 h_a177_0 = true := by decide +kernel
theorem cs_a177 (hen : en_ok) (l : Launch) : e2_smOk l 1 s_a177 := by
  refine e2_conG (H := 0) (n := 0) (C := evd_96) (S := S_a177) (I := I_a177) (fuel := 4000) hen ei_96 e2_fz e2_fz (by decide) co_a177 fun M d _ hC hcall p e R s m args below meth c Q D cA A ads r0 ha hl0 => ?_
  have L_0 : e2_gdM M p l e R s m args below meth c Q D cA A ads r0 2 al_a177_0 [] E_a177_0 h_a177_0 := by
    refine e2_indL (u := 2) (j := 1) (lo := 2147483648) (hi := 2147483668) (b := 2) (dd := 0) hl0 (by decide) rfl rfl (Or.inr ⟨rfl, rfl⟩) rfl ci_a177_0 cj_a177_0 ?_
    intro r_0 k_0 hk_0 hp_0 hs_0 hn_0
    have hl_0 : r_0.length ≤ 3 := hs_0.len rfl
    have ha_0 := ha.ext hp_0
    exact e2_fromM hen ha_0 hcall (e2_cutA_ok (e2_fa (fun al st E h hc => hn_0 al st E h hc) e2_fz)) (hC []) (X := e2x_96) ex2_96 2 ck_a177_0
  have EN_0 := e2_entL (u := 2) (j := 1) (lo := 2147483648) (hi := 2147483668) hl0 rfl rfl rfl ci_a177_0 cj_a177_0 L_0
  exact e2_from hen ha hcall (e2_cutA_ok (e2_fa (fun al st E h hc => EN_0 al st E h hc) e2_fz)) (hC []) (X := e2x_96) ex2_96 0 ck_a177_e
/-! a178 X4_harms -/
def as_a178 : List ev_V := [(2, 59, 0), (11, 0, 4294967295)]
def E_a178 : e2_E := [(2147483648, 2147583648, 0, 0), (2147483652, 2147483668, 1, 0)]
def an681 : e2_Q2 := (an259, an267)
def an682 : e2_Q3 := (an681, an20)
def an683 : e2_Q4 := (an682, an28)
def an684 : e2_Q5 := (an14, an683)
def an685 : e2_Q6 := (an684, an367)
def an686 : e2_Q7 := (an685, an383)
def an687 : e2_Q4 := (an394, an664)
def an688 : e2_Q5 := (an323, an687)
def an689 : e2_Q6 := (an688, an398)
def an690 : e2_Q7 := (an392, an689)
def an691 : e2_Q8 := (an686, an690)
noncomputable def f_a178 : ev_H := (an691 : e2_Q8)
def an692 : e2_Q6 := (an688, an415)
def an693 : e2_Q7 := (an411, an692)
def an694 : e2_Q8 := (an686, an693)
noncomputable def q_a178_0 : ev_H := (an694 : e2_Q8)
noncomputable def rs_a178 : e2_Rs := [((11, 2147483648, 2147483649), q_a178_0)]
noncomputable def s_a178 : e2_Sm := (67, as_a178, E_a178, f_a178, rs_a178)
noncomputable def S_a178 : List e2_Sm := [s_a5, s_a6, s_a177]
noncomputable def I_a178 : List e2_In := []
set_option maxRecDepth 1000000 in
theorem ck_a178 : e2_run (e2_cal S_a178 I_a178 4000 0) (e2_fin rs_a178) e2x_67 (fun _ => false) (fun _ _ _ _ _ => false) 4000 (e2_seek e2x_67 0) (e2_al 2 as_a178) [] E_a178 f_a178 = true := by decide +kernel
set_option maxRecDepth 1000000 in
theorem co_a178 : e2_okSB E_a178.length as_a178 f_a178 rs_a178 = true := by decide +kernel
theorem cs_a178 (hen : en_ok) (l : Launch) (hh : e2_hand_a l) : e2_smOk l 61 s_a178 := e2_con0 (H := 60) (n := 0) (C := evd_67) (S := S_a178) (I := I_a178) (fuel := 4000) [] hen ei_67 (e2_fa (hh _ hm_a5) (e2_fa (hh _ hm_a6) (e2_fa ((cs_a177 hen l).mono (by decide)) e2_fz))) e2_fz (by decide) co_a178 ex2_67 ck_a178
/-! a179 X4_harms -/
def as_a179 : List ev_V := [(2, 59, 0), (11, 0, 4294967295)]
def E_a179 : e2_E := [(2147483648, 2147583648, 0, 0), (2147483652, 2147483668, 1, 0)]
noncomputable def f_a179 : ev_H := (an694 : e2_Q8)
noncomputable def q_a179_0 : ev_H := (an694 : e2_Q8)
noncomputable def rs_a179 : e2_Rs := [((11, 2147483648, 2147483649), q_a179_0)]
noncomputable def s_a179 : e2_Sm := (67, as_a179, E_a179, f_a179, rs_a179)
noncomputable def S_a179 : List e2_Sm := [s_a6, s_a7, s_a177]
noncomputable def I_a179 : List e2_In := []
set_option maxRecDepth 1000000 in
theorem ck_a179 : e2_run (e2_cal S_a179 I_a179 4000 0) (e2_fin rs_a179) e2x_67 (fun _ => false) (fun _ _ _ _ _ => false) 4000 (e2_seek e2x_67 0) (e2_al 2 as_a179) [] E_a179 f_a179 = true := by decide +kernel
set_option maxRecDepth 1000000 in
theorem co_a179 : e2_okSB E_a179.length as_a179 f_a179 rs_a179 = true := by decide +kernel
theorem cs_a179 (hen : en_ok) (l : Launch) (hh : e2_hand_a l) : e2_smOk l 61 s_a179 := e2_con0 (H := 60) (n := 0) (C := evd_67) (S := S_a179) (I := I_a179) (fuel := 4000) [] hen ei_67 (e2_fa (hh _ hm_a6) (e2_fa (hh _ hm_a7) (e2_fa ((cs_a177 hen l).mono (by decide)) e2_fz))) e2_fz (by decide) co_a179 ex2_67 ck_a179
/-! a180 X5_gainOf -/
def as_a180 : List ev_V := [(2, 65, 0), (11, 0, 4294967295)]
def E_a180 : e2_E := [(2147483648, 2147583648, 0, 0), (2147483652, 2147483668, 1, 0)]
def an695 : e2_Q2 := (an638, an222)
def an696 : e2_Q3 := (an695, an226)
def an697 : e2_Q4 := (an696, an234)
def an698 : e2_Q5 := (an697, an250)
def an699 : e2_Q6 := (an432, an698)
def an700 : e2_Q7 := (an678, an699)
def an701 : e2_Q8 := (an676, an700)
noncomputable def f_a180 : ev_H := (an701 : e2_Q8)
noncomputable def q_a180_0 : ev_H := (an701 : e2_Q8)
noncomputable def rs_a180 : e2_Rs := [((11, 0, 4294967295), q_a180_0)]
noncomputable def s_a180 : e2_Sm := (95, as_a180, E_a180, f_a180, rs_a180)
noncomputable def S_a180 : List e2_Sm := []
noncomputable def I_a180 : List e2_In := []
set_option maxRecDepth 1000000 in
theorem co_a180 : e2_okSB E_a180.length as_a180 f_a180 rs_a180 = true := by decide +kernel
def al_a180_0 : List ev_V := [(2, 65, 0), (11, 0, 4294967295), (11, 0, 4294967295), (1, 2, 4294967296)]
def E_a180_0 : e2_E := [(2147483648, 2147583648, 0, 0), (2147483652, 2147483668, 1, 0), (2147483648, 2147483668, 2, 0)]
noncomputable def h_a180_0 : ev_H := (an701 : e2_Q8)
noncomputable def cl_a180_e : List (Nat × e2_S) := [(4, e2_cutL (al_a180_0.set 3 (11, 2147483648, 2147483668)) 2 (E_a180_0.take 2) h_a180_0)]
set_option maxRecDepth 1000000 in
theorem ck_a180_e : e2_run (e2_cal S_a180 I_a180 4000 0) (e2_fin rs_a180) e2x_95 (e2_bpL cl_a180_e) (e2_cutA cl_a180_e) 4000 (e2_seek e2x_95 0) (e2_al 4 as_a180) [] E_a180 f_a180 = true := by decide +kernel
noncomputable def cl_a180_0 : List (Nat × e2_S) := [(4, e2_cutL (al_a180_0.set 3 (13, 10, 2147483668)) 2 (E_a180_0.take 2) h_a180_0)]
set_option maxRecDepth 1000000 in
theorem ck_a180_0 : e2_runM (e2_cal S_a180 I_a180 4000 0) (e2_fin rs_a180) e2x_95 (e2_bpL cl_a180_0) (e2_cutA cl_a180_0) 4000 (e2_seek e2x_95 4) al_a180_0 [] E_a180_0 h_a180_0 = true := by decide +kernel
set_option maxRecDepth 1000000 in
theorem ci_a180_0 : e2_idl 2 (al_a180_0.set 3 (9, 0, 0)) = true := by decide +kernel
set_option maxRecDepth 1000000 in
theorem cj_a180_0 : e2_idh 2 8 h_a180_0 = true := by decide +kernel
theorem cs_a180 (hen : en_ok) (l : Launch) : e2_smOk l 1 s_a180 := by
  refine e2_conG (H := 0) (n := 0) (C := evd_95) (S := S_a180) (I := I_a180) (fuel := 4000) hen ei_95 e2_fz e2_fz (by decide) co_a180 fun M d _ hC hcall p e R s m args below meth c Q D cA A ads r0 ha hl0 => ?_
  have L_0 : e2_gdM M p l e R s m args below meth c Q D cA A ads r0 4 al_a180_0 [] E_a180_0 h_a180_0 := by
    refine e2_indL (u := 2) (j := 3) (lo := 2147483648) (hi := 2147483668) (b := 2) (dd := 0) hl0 (by decide) rfl rfl (Or.inr ⟨rfl, rfl⟩) rfl ci_a180_0 cj_a180_0 ?_
    intro r_0 k_0 hk_0 hp_0 hs_0 hn_0
    have hl_0 : r_0.length ≤ 3 := hs_0.len rfl
    have ha_0 := ha.ext hp_0
    exact e2_fromM hen ha_0 hcall (e2_cutA_ok (e2_fa (fun al st E h hc => hn_0 al st E h hc) e2_fz)) (hC []) (X := e2x_95) ex2_95 4 ck_a180_0
  have EN_0 := e2_entL (u := 2) (j := 3) (lo := 2147483648) (hi := 2147483668) hl0 rfl rfl rfl ci_a180_0 cj_a180_0 L_0
  exact e2_from hen ha hcall (e2_cutA_ok (e2_fa (fun al st E h hc => EN_0 al st E h hc) e2_fz)) (hC []) (X := e2x_95) ex2_95 0 ck_a180_e
/-! a181 X4_gainBy -/
def as_a181 : List ev_V := [(2, 59, 0), (11, 0, 4294967295), (11, 2147483648, 2147483651)]
def E_a181 : e2_E := [(2147483648, 2147583648, 0, 0), (2147483652, 2147483668, 1, 0)]
def an702 : e2_Q6 := (an688, an642)
def an703 : e2_Q7 := (an392, an702)
def an704 : e2_Q8 := (an686, an703)
noncomputable def f_a181 : ev_H := (an704 : e2_Q8)
def an705 : e2_Q2 := (an638, an338)
def an706 : e2_Q3 := (an705, an226)
def an707 : e2_Q4 := (an706, an234)
def an708 : e2_Q5 := (an707, an250)
def an709 : e2_Q6 := (an688, an708)
def an710 : e2_Q7 := (an411, an709)
def an711 : e2_Q8 := (an686, an710)
noncomputable def q_a181_0 : ev_H := (an711 : e2_Q8)
noncomputable def rs_a181 : e2_Rs := [((11, 0, 4294967295), q_a181_0)]
noncomputable def s_a181 : e2_Sm := (68, as_a181, E_a181, f_a181, rs_a181)
noncomputable def S_a181 : List e2_Sm := [s_a5, s_a6, s_a180]
noncomputable def I_a181 : List e2_In := []
set_option maxRecDepth 1000000 in
theorem ck_a181 : e2_run (e2_cal S_a181 I_a181 4000 0) (e2_fin rs_a181) e2x_68 (fun _ => false) (fun _ _ _ _ _ => false) 4000 (e2_seek e2x_68 0) (e2_al 3 as_a181) [] E_a181 f_a181 = true := by decide +kernel
set_option maxRecDepth 1000000 in
theorem co_a181 : e2_okSB E_a181.length as_a181 f_a181 rs_a181 = true := by decide +kernel
theorem cs_a181 (hen : en_ok) (l : Launch) (hh : e2_hand_a l) : e2_smOk l 61 s_a181 := e2_con0 (H := 60) (n := 0) (C := evd_68) (S := S_a181) (I := I_a181) (fuel := 4000) [] hen ei_68 (e2_fa (hh _ hm_a5) (e2_fa (hh _ hm_a6) (e2_fa ((cs_a180 hen l).mono (by decide)) e2_fz))) e2_fz (by decide) co_a181 ex2_68 ck_a181
/-! a182 X4_gainBy -/
def as_a182 : List ev_V := [(2, 59, 0), (11, 0, 4294967295), (11, 2147483648, 2147483651)]
def E_a182 : e2_E := [(2147483648, 2147583648, 0, 0), (2147483652, 2147483668, 1, 0)]
noncomputable def f_a182 : ev_H := (an711 : e2_Q8)
noncomputable def q_a182_0 : ev_H := (an711 : e2_Q8)
noncomputable def rs_a182 : e2_Rs := [((11, 0, 4294967295), q_a182_0)]
noncomputable def s_a182 : e2_Sm := (68, as_a182, E_a182, f_a182, rs_a182)
noncomputable def S_a182 : List e2_Sm := [s_a6, s_a7, s_a180]
noncomputable def I_a182 : List e2_In := []
set_option maxRecDepth 1000000 in
theorem ck_a182 : e2_run (e2_cal S_a182 I_a182 4000 0) (e2_fin rs_a182) e2x_68 (fun _ => false) (fun _ _ _ _ _ => false) 4000 (e2_seek e2x_68 0) (e2_al 3 as_a182) [] E_a182 f_a182 = true := by decide +kernel
set_option maxRecDepth 1000000 in
theorem co_a182 : e2_okSB E_a182.length as_a182 f_a182 rs_a182 = true := by decide +kernel
theorem cs_a182 (hen : en_ok) (l : Launch) (hh : e2_hand_a l) : e2_smOk l 61 s_a182 := e2_con0 (H := 60) (n := 0) (C := evd_68) (S := S_a182) (I := I_a182) (fuel := 4000) [] hen ei_68 (e2_fa (hh _ hm_a6) (e2_fa (hh _ hm_a7) (e2_fa ((cs_a180 hen l).mono (by decide)) e2_fz))) e2_fz (by decide) co_a182 ex2_68 ck_a182
/-! a183 X4_wishForOneReading -/
def as_a183 : List ev_V := [(2, 59, 0)]
def E_a183 : e2_E := [(2147483648, 2147583648, 0, 0), (2147483652, 2147483668, 1, 0)]
def ac176 : ev_C := (54, [(0, 20, 0), (11, 0, 4294967295)])
def an712 : e2_Q1 := (ac176, ac3)
def an713 : e2_Q2 := (an712, an184)
def an714 : e2_Q3 := (an182, an713)
def an715 : e2_Q4 := (an179, an714)
def an716 : e2_Q5 := (an315, an715)
def an717 : e2_Q6 := (an391, an716)
def an718 : e2_Q7 := (an717, an689)
def an719 : e2_Q8 := (an384, an718)
noncomputable def f_a183 : ev_H := (an719 : e2_Q8)
def an720 : e2_Q5 := (an409, an715)
def an721 : e2_Q6 := (an406, an720)
def an722 : e2_Q7 := (an721, an692)
def an723 : e2_Q8 := (an384, an722)
noncomputable def q_a183_0 : ev_H := (an723 : e2_Q8)
noncomputable def rs_a183 : e2_Rs := [((11, 2147483648, 2147483649), q_a183_0)]
noncomputable def s_a183 : e2_Sm := (70, as_a183, E_a183, f_a183, rs_a183)
noncomputable def S_a183 : List e2_Sm := [s_a5, s_a6]
noncomputable def I_a183 : List e2_In := []
set_option maxRecDepth 1000000 in
theorem co_a183 : e2_okSB E_a183.length as_a183 f_a183 rs_a183 = true := by decide +kernel
def al_a183_0 : List ev_V := [(2, 59, 0), (1, 2, 4294967296)]
def E_a183_0 : e2_E := [(2147483648, 2147583648, 0, 0), (2147483652, 2147483668, 1, 0), (2147483648, 2147483668, 2, 0)]
noncomputable def h_a183_0 : ev_H := (an723 : e2_Q8)
noncomputable def cl_a183_e : List (Nat × e2_S) := [(44, e2_cutL (al_a183_0.set 1 (11, 2147483648, 2147483668)) 2 (E_a183_0.take 2) h_a183_0)]
set_option maxRecDepth 1000000 in
theorem ck_a183_e : e2_run (e2_cal S_a183 I_a183 4000 0) (e2_fin rs_a183) e2x_70 (e2_bpL cl_a183_e) (e2_cutA cl_a183_e) 4000 (e2_seek e2x_70 0) (e2_al 2 as_a183) [] E_a183 f_a183 = true := by decide +kernel
noncomputable def cl_a183_0 : List (Nat × e2_S) := [(44, e2_cutL (al_a183_0.set 1 (13, 10, 2147483668)) 2 (E_a183_0.take 2) h_a183_0)]
set_option maxRecDepth 1000000 in
theorem ck_a183_0 : e2_runM (e2_cal S_a183 I_a183 4000 0) (e2_fin rs_a183) e2x_70 (e2_bpL cl_a183_0) (e2_cutA cl_a183_0) 4000 (e2_seek e2x_70 44) al_a183_0 [] E_a183_0 h_a183_0 = true := by decide +kernel
set_option maxRecDepth 1000000 in
theorem ci_a183_0 : e2_idl 2 (al_a183_0.set 1 (9, 0, 0)) = true := by decide +kernel
set_option maxRecDepth 1000000 in
theorem cj_a183_0 : e2_idh 2 8 h_a183_0 = true := by decide +kernel
theorem cs_a183 (hen : en_ok) (l : Launch) (hh : e2_hand_a l) : e2_smOk l 61 s_a183 := by
  refine e2_conG (H := 60) (n := 0) (C := evd_70) (S := S_a183) (I := I_a183) (fuel := 4000) hen ei_70 (e2_fa (hh _ hm_a5) (e2_fa (hh _ hm_a6) e2_fz)) e2_fz (by decide) co_a183 fun M d _ hC hcall p e R s m args below meth c Q D cA A ads r0 ha hl0 => ?_
  have L_0 : e2_gdM M p l e R s m args below meth c Q D cA A ads r0 44 al_a183_0 [] E_a183_0 h_a183_0 := by
    refine e2_indL (u := 2) (j := 1) (lo := 2147483648) (hi := 2147483668) (b := 2) (dd := 0) hl0 (by decide) rfl rfl (Or.inr ⟨rfl, rfl⟩) rfl ci_a183_0 cj_a183_0 ?_
    intro r_0 k_0 hk_0 hp_0 hs_0 hn_0
    have hl_0 : r_0.length ≤ 3 := hs_0.len rfl
    have ha_0 := ha.ext hp_0
    exact e2_fromM hen ha_0 hcall (e2_cutA_ok (e2_fa (fun al st E h hc => hn_0 al st E h hc) e2_fz)) (hC []) (X := e2x_70) ex2_70 44 ck_a183_0
  have EN_0 := e2_entL (u := 2) (j := 1) (lo := 2147483648) (hi := 2147483668) hl0 rfl rfl rfl ci_a183_0 cj_a183_0 L_0
  exact e2_from hen ha hcall (e2_cutA_ok (e2_fa (fun al st E h hc => EN_0 al st E h hc) e2_fz)) (hC []) (X := e2x_70) ex2_70 0 ck_a183_e
/-! a184 X4_hasWantedSigns -/
def as_a184 : List ev_V := [(2, 59, 0)]
def E_a184 : e2_E := [(2147483648, 2147583648, 0, 0), (2147483652, 2147483668, 1, 0)]
def an724 : e2_Q6 := (an30, an674)
def an725 : e2_Q7 := (an724, an429)
def an726 : e2_Q2 := (an127, an402)
def an727 : e2_Q3 := (an726, an132)
def an728 : e2_Q4 := (an727, an140)
def an729 : e2_Q5 := (an728, an156)
def an730 : e2_Q5 := (an172, an715)
def an731 : e2_Q6 := (an729, an730)
def an732 : e2_Q4 := (an211, an664)
def an733 : e2_Q5 := (an431, an732)
def an734 : e2_Q6 := (an733, an251)
def an735 : e2_Q7 := (an731, an734)
def an736 : e2_Q8 := (an725, an735)
noncomputable def f_a184 : ev_H := (an736 : e2_Q8)
noncomputable def q_a184_0 : ev_H := (an736 : e2_Q8)
noncomputable def rs_a184 : e2_Rs := [((11, 2147483648, 2147483649), q_a184_0)]
noncomputable def s_a184 : e2_Sm := (74, as_a184, E_a184, f_a184, rs_a184)
noncomputable def S_a184 : List e2_Sm := []
noncomputable def I_a184 : List e2_In := []
set_option maxRecDepth 1000000 in
theorem co_a184 : e2_okSB E_a184.length as_a184 f_a184 rs_a184 = true := by decide +kernel
def al_a184_0 : List ev_V := [(2, 59, 0), (1, 2, 4294967296)]
def E_a184_0 : e2_E := [(2147483648, 2147583648, 0, 0), (2147483652, 2147483668, 1, 0), (2147483648, 2147483668, 2, 0)]
noncomputable def h_a184_0 : ev_H := (an736 : e2_Q8)
noncomputable def cl_a184_e : List (Nat × e2_S) := [(18, e2_cutL (al_a184_0.set 1 (11, 2147483648, 2147483668)) 2 (E_a184_0.take 2) h_a184_0)]
set_option maxRecDepth 1000000 in
theorem ck_a184_e : e2_run (e2_cal S_a184 I_a184 4000 0) (e2_fin rs_a184) e2x_74 (e2_bpL cl_a184_e) (e2_cutA cl_a184_e) 4000 (e2_seek e2x_74 0) (e2_al 2 as_a184) [] E_a184 f_a184 = true := by decide +kernel
noncomputable def cl_a184_0 : List (Nat × e2_S) := [(18, e2_cutL (al_a184_0.set 1 (13, 10, 2147483668)) 2 (E_a184_0.take 2) h_a184_0)]
set_option maxRecDepth 1000000 in
theorem ck_a184_0 : e2_runM (e2_cal S_a184 I_a184 4000 0) (e2_fin rs_a184) e2x_74 (e2_bpL cl_a184_0) (e2_cutA cl_a184_0) 4000 (e2_seek e2x_74 18) al_a184_0 [] E_a184_0 h_a184_0 = true := by decide +kernel
set_option maxRecDepth 1000000 in
theorem ci_a184_0 : e2_idl 2 (al_a184_0.set 1 (9, 0, 0)) = true := by decide +kernel
set_option maxRecDepth 1000000 in
theorem cj_a184_0 : e2_idh 2 8 h_a184_0 = true := by decide +kernel
theorem cs_a184 (hen : en_ok) (l : Launch) : e2_smOk l 1 s_a184 := by
  refine e2_conG (H := 0) (n := 0) (C := evd_74) (S := S_a184) (I := I_a184) (fuel := 4000) hen ei_74 e2_fz e2_fz (by decide) co_a184 fun M d _ hC hcall p e R s m args below meth c Q D cA A ads r0 ha hl0 => ?_
  have L_0 : e2_gdM M p l e R s m args below meth c Q D cA A ads r0 18 al_a184_0 [] E_a184_0 h_a184_0 := by
    refine e2_indL (u := 2) (j := 1) (lo := 2147483648) (hi := 2147483668) (b := 2) (dd := 0) hl0 (by decide) rfl rfl (Or.inr ⟨rfl, rfl⟩) rfl ci_a184_0 cj_a184_0 ?_
    intro r_0 k_0 hk_0 hp_0 hs_0 hn_0
    have hl_0 : r_0.length ≤ 3 := hs_0.len rfl
    have ha_0 := ha.ext hp_0
    exact e2_fromM hen ha_0 hcall (e2_cutA_ok (e2_fa (fun al st E h hc => hn_0 al st E h hc) e2_fz)) (hC []) (X := e2x_74) ex2_74 18 ck_a184_0
  have EN_0 := e2_entL (u := 2) (j := 1) (lo := 2147483648) (hi := 2147483668) hl0 rfl rfl rfl ci_a184_0 cj_a184_0 L_0
  exact e2_from hen ha hcall (e2_cutA_ok (e2_fa (fun al st E h hc => EN_0 al st E h hc) e2_fz)) (hC []) (X := e2x_74) ex2_74 0 ck_a184_e
/-! a185 X4_meetsGoal -/
def as_a185 : List ev_V := [(2, 59, 0), (11, 0, 4294967295)]
def E_a185 : e2_E := [(2147483648, 2147583648, 0, 0), (2147483652, 2147483668, 1, 0)]
def an737 : e2_Q7 := (an717, an702)
def an738 : e2_Q8 := (an686, an737)
noncomputable def f_a185 : ev_H := (an738 : e2_Q8)
def an739 : e2_Q7 := (an721, an709)
def an740 : e2_Q8 := (an686, an739)
noncomputable def q_a185_0 : ev_H := (an740 : e2_Q8)
noncomputable def rs_a185 : e2_Rs := [((11, 2147483648, 2147483649), q_a185_0)]
noncomputable def s_a185 : e2_Sm := (73, as_a185, E_a185, f_a185, rs_a185)
noncomputable def S_a185 : List e2_Sm := [s_a5, s_a6, s_a180, s_a184]
noncomputable def I_a185 : List e2_In := []
set_option maxRecDepth 1000000 in
theorem ck_a185 : e2_run (e2_cal S_a185 I_a185 4000 0) (e2_fin rs_a185) e2x_73 (fun _ => false) (fun _ _ _ _ _ => false) 4000 (e2_seek e2x_73 0) (e2_al 3 as_a185) [] E_a185 f_a185 = true := by decide +kernel
set_option maxRecDepth 1000000 in
theorem co_a185 : e2_okSB E_a185.length as_a185 f_a185 rs_a185 = true := by decide +kernel
theorem cs_a185 (hen : en_ok) (l : Launch) (hh : e2_hand_a l) : e2_smOk l 61 s_a185 := e2_con0 (H := 60) (n := 0) (C := evd_73) (S := S_a185) (I := I_a185) (fuel := 4000) [] hen ei_73 (e2_fa (hh _ hm_a5) (e2_fa (hh _ hm_a6) (e2_fa ((cs_a180 hen l).mono (by decide)) (e2_fa ((cs_a184 hen l).mono (by decide)) e2_fz)))) e2_fz (by decide) co_a185 ex2_73 ck_a185
/-! a186 X4_changeFrom -/
def as_a186 : List ev_V := [(2, 59, 0), (0, 0, 0), (0, 0, 0), (11, 0, 4294967295)]
def E_a186 : e2_E := [(2147483648, 2147583648, 0, 0), (2147483652, 2147483668, 1, 0)]
noncomputable def f_a186 : ev_H := (an738 : e2_Q8)
noncomputable def q_a186_0 : ev_H := (an740 : e2_Q8)
noncomputable def rs_a186 : e2_Rs := [((11, 2147483648, 2147483649), q_a186_0)]
noncomputable def s_a186 : e2_Sm := (72, as_a186, E_a186, f_a186, rs_a186)
noncomputable def S_a186 : List e2_Sm := [s_a185]
noncomputable def I_a186 : List e2_In := []
set_option maxRecDepth 1000000 in
theorem ck_a186 : e2_run (e2_cal S_a186 I_a186 4000 0) (e2_fin rs_a186) e2x_72 (fun _ => false) (fun _ _ _ _ _ => false) 4000 (e2_seek e2x_72 0) (e2_al 6 as_a186) [] E_a186 f_a186 = true := by decide +kernel
set_option maxRecDepth 1000000 in
theorem co_a186 : e2_okSB E_a186.length as_a186 f_a186 rs_a186 = true := by decide +kernel
theorem cs_a186 (hen : en_ok) (l : Launch) (hh : e2_hand_a l) : e2_smOk l 62 s_a186 := e2_con0 (H := 61) (n := 0) (C := evd_72) (S := S_a186) (I := I_a186) (fuel := 4000) [] hen ei_72 (e2_fa (cs_a185 hen l hh) e2_fz) e2_fz (by decide) co_a186 ex2_72 ck_a186
/-! a187 X4_meetsGoal -/
def as_a187 : List ev_V := [(2, 59, 0), (11, 0, 4294967295)]
def E_a187 : e2_E := [(2147483648, 2147583648, 0, 0), (2147483652, 2147483668, 1, 0)]
noncomputable def f_a187 : ev_H := (an740 : e2_Q8)
noncomputable def q_a187_0 : ev_H := (an740 : e2_Q8)
noncomputable def rs_a187 : e2_Rs := [((11, 2147483648, 2147483649), q_a187_0)]
noncomputable def s_a187 : e2_Sm := (73, as_a187, E_a187, f_a187, rs_a187)
noncomputable def S_a187 : List e2_Sm := [s_a6, s_a7, s_a180, s_a184]
noncomputable def I_a187 : List e2_In := []
set_option maxRecDepth 1000000 in
theorem ck_a187 : e2_run (e2_cal S_a187 I_a187 4000 0) (e2_fin rs_a187) e2x_73 (fun _ => false) (fun _ _ _ _ _ => false) 4000 (e2_seek e2x_73 0) (e2_al 3 as_a187) [] E_a187 f_a187 = true := by decide +kernel
set_option maxRecDepth 1000000 in
theorem co_a187 : e2_okSB E_a187.length as_a187 f_a187 rs_a187 = true := by decide +kernel
theorem cs_a187 (hen : en_ok) (l : Launch) (hh : e2_hand_a l) : e2_smOk l 61 s_a187 := e2_con0 (H := 60) (n := 0) (C := evd_73) (S := S_a187) (I := I_a187) (fuel := 4000) [] hen ei_73 (e2_fa (hh _ hm_a6) (e2_fa (hh _ hm_a7) (e2_fa ((cs_a180 hen l).mono (by decide)) (e2_fa ((cs_a184 hen l).mono (by decide)) e2_fz)))) e2_fz (by decide) co_a187 ex2_73 ck_a187
/-! a188 X4_changeFrom -/
def as_a188 : List ev_V := [(2, 59, 0), (11, 2147483648, 2147483668), (0, 0, 0), (11, 0, 4294967295)]
def E_a188 : e2_E := [(2147483648, 2147583648, 0, 0), (2147483652, 2147483668, 1, 0)]
noncomputable def f_a188 : ev_H := (an740 : e2_Q8)
noncomputable def q_a188_0 : ev_H := (an740 : e2_Q8)
noncomputable def rs_a188 : e2_Rs := [((11, 2147483648, 2147483649), q_a188_0)]
noncomputable def s_a188 : e2_Sm := (72, as_a188, E_a188, f_a188, rs_a188)
noncomputable def S_a188 : List e2_Sm := [s_a187]
noncomputable def I_a188 : List e2_In := []
set_option maxRecDepth 1000000 in
theorem ck_a188 : e2_run (e2_cal S_a188 I_a188 4000 0) (e2_fin rs_a188) e2x_72 (fun _ => false) (fun _ _ _ _ _ => false) 4000 (e2_seek e2x_72 0) (e2_al 6 as_a188) [] E_a188 f_a188 = true := by decide +kernel
set_option maxRecDepth 1000000 in
theorem co_a188 : e2_okSB E_a188.length as_a188 f_a188 rs_a188 = true := by decide +kernel
theorem cs_a188 (hen : en_ok) (l : Launch) (hh : e2_hand_a l) : e2_smOk l 62 s_a188 := e2_con0 (H := 61) (n := 0) (C := evd_72) (S := S_a188) (I := I_a188) (fuel := 4000) [] hen ei_72 (e2_fa (cs_a187 hen l hh) e2_fz) e2_fz (by decide) co_a188 ex2_72 ck_a188
/-! a189 X4_changeFrom -/
def as_a189 : List ev_V := [(2, 59, 0), (11, 2147483648, 2147483667), (0, 1, 0), (11, 0, 4294967295)]
def E_a189 : e2_E := [(2147483648, 2147583648, 0, 0), (2147483652, 2147483668, 1, 0)]
def an741 : e2_Q2 := (an712, an57)
def an742 : e2_Q3 := (an55, an741)
def an743 : e2_Q4 := (an365, an742)
def an744 : e2_Q5 := (an363, an743)
def an745 : e2_Q6 := (an684, an744)
def an746 : e2_Q7 := (an745, an383)
def an747 : e2_Q8 := (an746, an739)
noncomputable def f_a189 : ev_H := (an747 : e2_Q8)
noncomputable def q_a189_0 : ev_H := (an747 : e2_Q8)
noncomputable def rs_a189 : e2_Rs := [((11, 2147483648, 2147483649), q_a189_0)]
noncomputable def s_a189 : e2_Sm := (72, as_a189, E_a189, f_a189, rs_a189)
noncomputable def S_a189 : List e2_Sm := [s_a188]
noncomputable def I_a189 : List e2_In := [(64, 2, e2x_64), (159, 2, e2x_159)]
set_option maxRecDepth 1000000 in
theorem co_a189 : e2_okSB E_a189.length as_a189 f_a189 rs_a189 = true := by decide +kernel
def al_a189_0 : List ev_V := [(2, 59, 0), (11, 2147483648, 2147483667), (0, 1, 0), (11, 0, 4294967295), (1, 2, 4294967296), (9, 0, 0)]
def E_a189_0 : e2_E := [(2147483648, 2147583648, 0, 0), (2147483652, 2147483668, 1, 0), (2147483648, 2147483668, 2, 0)]
noncomputable def h_a189_0 : ev_H := (an747 : e2_Q8)
noncomputable def cl_a189_e : List (Nat × e2_S) := [(13, e2_cutL (al_a189_0.set 4 (11, 2147483648, 2147483668)) 2 (E_a189_0.take 2) h_a189_0)]
set_option maxRecDepth 1000000 in
theorem ck_a189_e : e2_run (e2_cal S_a189 I_a189 4000 1) (e2_fin rs_a189) e2x_72 (e2_bpL cl_a189_e) (e2_cutA cl_a189_e) 4000 (e2_seek e2x_72 0) (e2_al 6 as_a189) [] E_a189 f_a189 = true := by decide +kernel
noncomputable def cl_a189_0 : List (Nat × e2_S) := [(13, e2_cutL (al_a189_0.set 4 (13, 10, 2147483668)) 2 (E_a189_0.take 2) h_a189_0)]
set_option maxRecDepth 1000000 in
theorem ck_a189_0 : e2_runM (e2_cal S_a189 I_a189 4000 1) (e2_fin rs_a189) e2x_72 (e2_bpL cl_a189_0) (e2_cutA cl_a189_0) 4000 (e2_seek e2x_72 13) al_a189_0 [] E_a189_0 h_a189_0 = true := by decide +kernel
set_option maxRecDepth 1000000 in
theorem ci_a189_0 : e2_idl 2 (al_a189_0.set 4 (9, 0, 0)) = true := by decide +kernel
set_option maxRecDepth 1000000 in
theorem cj_a189_0 : e2_idh 2 8 h_a189_0 = true := by decide +kernel
theorem cs_a189 (hen : en_ok) (l : Launch) (hh : e2_hand_a l) : e2_smOk l 64 s_a189 := by
  refine e2_conG (H := 62) (n := 1) (C := evd_72) (S := S_a189) (I := I_a189) (fuel := 4000) hen ei_72 (e2_fa (cs_a188 hen l hh) e2_fz) (e2_fa ein_64 (e2_fa ein_159 e2_fz)) (by decide) co_a189 fun M d _ hC hcall p e R s m args below meth c Q D cA A ads r0 ha hl0 => ?_
  have L_0 : e2_gdM M p l e R s m args below meth c Q D cA A ads r0 13 al_a189_0 [] E_a189_0 h_a189_0 := by
    refine e2_indL (u := 2) (j := 4) (lo := 2147483648) (hi := 2147483668) (b := 2) (dd := 0) hl0 (by decide) rfl rfl (Or.inr ⟨rfl, rfl⟩) rfl ci_a189_0 cj_a189_0 ?_
    intro r_0 k_0 hk_0 hp_0 hs_0 hn_0
    have hl_0 : r_0.length ≤ 3 := hs_0.len rfl
    have ha_0 := ha.ext hp_0
    exact e2_fromM hen ha_0 hcall (e2_cutA_ok (e2_fa (fun al st E h hc => hn_0 al st E h hc) e2_fz)) (hC []) (X := e2x_72) ex2_72 13 ck_a189_0
  have EN_0 := e2_entL (u := 2) (j := 4) (lo := 2147483648) (hi := 2147483668) hl0 rfl rfl rfl ci_a189_0 cj_a189_0 L_0
  exact e2_from hen ha hcall (e2_cutA_ok (e2_fa (fun al st E h hc => EN_0 al st E h hc) e2_fz)) (hC []) (X := e2x_72) ex2_72 0 ck_a189_e
/-! a190 X4_changeFrom -/
def as_a190 : List ev_V := [(2, 59, 0), (11, 2147483648, 2147483667), (0, 2, 0), (11, 0, 4294967295)]
def E_a190 : e2_E := [(2147483648, 2147583648, 0, 0), (2147483652, 2147483668, 1, 0)]
noncomputable def f_a190 : ev_H := (an747 : e2_Q8)
noncomputable def q_a190_0 : ev_H := (an747 : e2_Q8)
noncomputable def rs_a190 : e2_Rs := [((11, 2147483648, 2147483649), q_a190_0)]
noncomputable def s_a190 : e2_Sm := (72, as_a190, E_a190, f_a190, rs_a190)
noncomputable def S_a190 : List e2_Sm := [s_a189]
noncomputable def I_a190 : List e2_In := [(64, 2, e2x_64), (159, 2, e2x_159)]
set_option maxRecDepth 1000000 in
theorem co_a190 : e2_okSB E_a190.length as_a190 f_a190 rs_a190 = true := by decide +kernel
def al_a190_0 : List ev_V := [(2, 59, 0), (11, 2147483648, 2147483667), (0, 2, 0), (11, 0, 4294967295), (1, 2, 4294967296), (9, 0, 0)]
def E_a190_0 : e2_E := [(2147483648, 2147583648, 0, 0), (2147483652, 2147483668, 1, 0), (2147483648, 2147483667, 2, 0)]
noncomputable def h_a190_0 : ev_H := (an747 : e2_Q8)
noncomputable def cl_a190_e : List (Nat × e2_S) := [(13, e2_cutL (al_a190_0.set 4 (11, 2147483648, 2147483667)) 2 (E_a190_0.take 2) h_a190_0)]
set_option maxRecDepth 1000000 in
theorem ck_a190_e : e2_run (e2_cal S_a190 I_a190 4000 1) (e2_fin rs_a190) e2x_72 (e2_bpL cl_a190_e) (e2_cutA cl_a190_e) 4000 (e2_seek e2x_72 0) (e2_al 6 as_a190) [] E_a190 f_a190 = true := by decide +kernel
noncomputable def cl_a190_0 : List (Nat × e2_S) := [(13, e2_cutL (al_a190_0.set 4 (13, 10, 2147483667)) 2 (E_a190_0.take 2) h_a190_0)]
set_option maxRecDepth 1000000 in
theorem ck_a190_0 : e2_runM (e2_cal S_a190 I_a190 4000 1) (e2_fin rs_a190) e2x_72 (e2_bpL cl_a190_0) (e2_cutA cl_a190_0) 4000 (e2_seek e2x_72 13) al_a190_0 [] E_a190_0 h_a190_0 = true := by decide +kernel
set_option maxRecDepth 1000000 in
theorem ci_a190_0 : e2_idl 2 (al_a190_0.set 4 (9, 0, 0)) = true := by decide +kernel
set_option maxRecDepth 1000000 in
theorem cj_a190_0 : e2_idh 2 8 h_a190_0 = true := by decide +kernel
theorem cs_a190 (hen : en_ok) (l : Launch) (hh : e2_hand_a l) : e2_smOk l 66 s_a190 := by
  refine e2_conG (H := 64) (n := 1) (C := evd_72) (S := S_a190) (I := I_a190) (fuel := 4000) hen ei_72 (e2_fa (cs_a189 hen l hh) e2_fz) (e2_fa ein_64 (e2_fa ein_159 e2_fz)) (by decide) co_a190 fun M d _ hC hcall p e R s m args below meth c Q D cA A ads r0 ha hl0 => ?_
  have L_0 : e2_gdM M p l e R s m args below meth c Q D cA A ads r0 13 al_a190_0 [] E_a190_0 h_a190_0 := by
    refine e2_indL (u := 2) (j := 4) (lo := 2147483648) (hi := 2147483667) (b := 2) (dd := 0) hl0 (by decide) rfl rfl (Or.inr ⟨rfl, rfl⟩) rfl ci_a190_0 cj_a190_0 ?_
    intro r_0 k_0 hk_0 hp_0 hs_0 hn_0
    have hl_0 : r_0.length ≤ 3 := hs_0.len rfl
    have ha_0 := ha.ext hp_0
    exact e2_fromM hen ha_0 hcall (e2_cutA_ok (e2_fa (fun al st E h hc => hn_0 al st E h hc) e2_fz)) (hC []) (X := e2x_72) ex2_72 13 ck_a190_0
  have EN_0 := e2_entL (u := 2) (j := 4) (lo := 2147483648) (hi := 2147483667) hl0 rfl rfl rfl ci_a190_0 cj_a190_0 L_0
  exact e2_from hen ha hcall (e2_cutA_ok (e2_fa (fun al st E h hc => EN_0 al st E h hc) e2_fz)) (hC []) (X := e2x_72) ex2_72 0 ck_a190_e
/-! a191 X4_changeFrom -/
def as_a191 : List ev_V := [(2, 59, 0), (0, 0, 0), (0, 3, 0), (11, 0, 4294967295)]
def E_a191 : e2_E := [(2147483648, 2147583648, 0, 0), (2147483652, 2147483668, 1, 0)]
noncomputable def f_a191 : ev_H := (an747 : e2_Q8)
noncomputable def q_a191_0 : ev_H := (an747 : e2_Q8)
noncomputable def rs_a191 : e2_Rs := [((11, 2147483648, 2147483649), q_a191_0)]
noncomputable def s_a191 : e2_Sm := (72, as_a191, E_a191, f_a191, rs_a191)
noncomputable def S_a191 : List e2_Sm := [s_a190]
noncomputable def I_a191 : List e2_In := [(64, 2, e2x_64), (159, 2, e2x_159)]
set_option maxRecDepth 1000000 in
theorem co_a191 : e2_okSB E_a191.length as_a191 f_a191 rs_a191 = true := by decide +kernel
def al_a191_0 : List ev_V := [(2, 59, 0), (0, 0, 0), (0, 3, 0), (11, 0, 4294967295), (1, 2, 4294967296), (9, 0, 0)]
def E_a191_0 : e2_E := [(2147483648, 2147583648, 0, 0), (2147483652, 2147483668, 1, 0), (2147483648, 2147483666, 2, 0)]
noncomputable def h_a191_0 : ev_H := (an747 : e2_Q8)
noncomputable def cl_a191_e : List (Nat × e2_S) := [(13, e2_cutL (al_a191_0.set 4 (11, 2147483648, 2147483666)) 2 (E_a191_0.take 2) h_a191_0)]
set_option maxRecDepth 1000000 in
theorem ck_a191_e : e2_run (e2_cal S_a191 I_a191 4000 1) (e2_fin rs_a191) e2x_72 (e2_bpL cl_a191_e) (e2_cutA cl_a191_e) 4000 (e2_seek e2x_72 0) (e2_al 6 as_a191) [] E_a191 f_a191 = true := by decide +kernel
noncomputable def cl_a191_0 : List (Nat × e2_S) := [(13, e2_cutL (al_a191_0.set 4 (13, 10, 2147483666)) 2 (E_a191_0.take 2) h_a191_0)]
set_option maxRecDepth 1000000 in
theorem ck_a191_0 : e2_runM (e2_cal S_a191 I_a191 4000 1) (e2_fin rs_a191) e2x_72 (e2_bpL cl_a191_0) (e2_cutA cl_a191_0) 4000 (e2_seek e2x_72 13) al_a191_0 [] E_a191_0 h_a191_0 = true := by decide +kernel
set_option maxRecDepth 1000000 in
theorem ci_a191_0 : e2_idl 2 (al_a191_0.set 4 (9, 0, 0)) = true := by decide +kernel
set_option maxRecDepth 1000000 in
theorem cj_a191_0 : e2_idh 2 8 h_a191_0 = true := by decide +kernel
theorem cs_a191 (hen : en_ok) (l : Launch) (hh : e2_hand_a l) : e2_smOk l 68 s_a191 := by
  refine e2_conG (H := 66) (n := 1) (C := evd_72) (S := S_a191) (I := I_a191) (fuel := 4000) hen ei_72 (e2_fa (cs_a190 hen l hh) e2_fz) (e2_fa ein_64 (e2_fa ein_159 e2_fz)) (by decide) co_a191 fun M d _ hC hcall p e R s m args below meth c Q D cA A ads r0 ha hl0 => ?_
  have L_0 : e2_gdM M p l e R s m args below meth c Q D cA A ads r0 13 al_a191_0 [] E_a191_0 h_a191_0 := by
    refine e2_indL (u := 2) (j := 4) (lo := 2147483648) (hi := 2147483666) (b := 2) (dd := 0) hl0 (by decide) rfl rfl (Or.inr ⟨rfl, rfl⟩) rfl ci_a191_0 cj_a191_0 ?_
    intro r_0 k_0 hk_0 hp_0 hs_0 hn_0
    have hl_0 : r_0.length ≤ 3 := hs_0.len rfl
    have ha_0 := ha.ext hp_0
    exact e2_fromM hen ha_0 hcall (e2_cutA_ok (e2_fa (fun al st E h hc => hn_0 al st E h hc) e2_fz)) (hC []) (X := e2x_72) ex2_72 13 ck_a191_0
  have EN_0 := e2_entL (u := 2) (j := 4) (lo := 2147483648) (hi := 2147483666) hl0 rfl rfl rfl ci_a191_0 cj_a191_0 L_0
  exact e2_from hen ha hcall (e2_cutA_ok (e2_fa (fun al st E h hc => EN_0 al st E h hc) e2_fz)) (hC []) (X := e2x_72) ex2_72 0 ck_a191_e
/-! a192 X4_fewestChanges -/
def as_a192 : List ev_V := [(2, 59, 0)]
def E_a192 : e2_E := [(2147483648, 2147583648, 0, 0), (2147483652, 2147483668, 1, 0)]
def an748 : e2_Q8 := (an746, an737)
noncomputable def f_a192 : ev_H := (an748 : e2_Q8)
noncomputable def q_a192_0 : ev_H := (an747 : e2_Q8)
noncomputable def rs_a192 : e2_Rs := [((11, 2147483647, 2147483651), q_a192_0)]
noncomputable def s_a192 : e2_Sm := (71, as_a192, E_a192, f_a192, rs_a192)
noncomputable def S_a192 : List e2_Sm := [s_a186, s_a189, s_a190, s_a191]
noncomputable def I_a192 : List e2_In := []
set_option maxRecDepth 1000000 in
theorem co_a192 : e2_okSB E_a192.length as_a192 f_a192 rs_a192 = true := by decide +kernel
def al_a192_0 : List ev_V := [(2, 59, 0), (1, 2, 4294967296)]
def E_a192_0 : e2_E := [(2147483648, 2147583648, 0, 0), (2147483652, 2147483668, 1, 0), (2147483649, 2147483652, 2, 0)]
noncomputable def h_a192_0 : ev_H := (an747 : e2_Q8)
def al_a192_1 : List ev_V := [(2, 59, 0), (1, 2, 4294967296)]
def E_a192_1 : e2_E := [(2147483648, 2147583648, 0, 0), (2147483652, 2147483668, 1, 0), (2147483648, 2147483648, 2, 0)]
noncomputable def h_a192_1 : ev_H := (an748 : e2_Q8)
noncomputable def cl_a192_e : List (Nat × e2_S) := [(2, e2_cutL (al_a192_1.set 1 (11, 2147483648, 2147483648)) 2 (E_a192_1.take 2) h_a192_1)]
set_option maxRecDepth 1000000 in
theorem ck_a192_e : e2_run (e2_cal S_a192 I_a192 4000 0) (e2_fin rs_a192) e2x_71 (e2_bpL cl_a192_e) (e2_cutA cl_a192_e) 4000 (e2_seek e2x_71 0) (e2_al 2 as_a192) [] E_a192 f_a192 = true := by decide +kernel
noncomputable def cl_a192_0 : List (Nat × e2_S) := [(2, e2_cutL (al_a192_0.set 1 (13, 10, 2147483652)) 2 (E_a192_0.take 2) h_a192_0)]
set_option maxRecDepth 1000000 in
theorem ck_a192_0 : e2_runM (e2_cal S_a192 I_a192 4000 0) (e2_fin rs_a192) e2x_71 (e2_bpL cl_a192_0) (e2_cutA cl_a192_0) 4000 (e2_seek e2x_71 2) al_a192_0 [] E_a192_0 h_a192_0 = true := by decide +kernel
set_option maxRecDepth 1000000 in
theorem ci_a192_0 : e2_idl 2 (al_a192_0.set 1 (9, 0, 0)) = true := by decide +kernel
set_option maxRecDepth 1000000 in
theorem cj_a192_0 : e2_idh 2 8 h_a192_0 = true := by decide +kernel
noncomputable def cl_a192_1 : List (Nat × e2_S) := [(2, e2_cutL (al_a192_0.set 1 (11, 2147483649, 2147483652)) 2 (E_a192_0.take 2) h_a192_0)]
set_option maxRecDepth 1000000 in
theorem ck_a192_1 : e2_runM (e2_cal S_a192 I_a192 4000 0) (e2_fin rs_a192) e2x_71 (e2_bpL cl_a192_1) (e2_cutA cl_a192_1) 4000 (e2_seek e2x_71 2) al_a192_1 [] E_a192_1 h_a192_1 = true := by decide +kernel
set_option maxRecDepth 1000000 in
theorem ci_a192_1 : e2_idl 2 (al_a192_1.set 1 (9, 0, 0)) = true := by decide +kernel
set_option maxRecDepth 1000000 in
theorem cj_a192_1 : e2_idh 2 8 h_a192_1 = true := by decide +kernel
theorem cs_a192 (hen : en_ok) (l : Launch) (hh : e2_hand_a l) : e2_smOk l 69 s_a192 := by
  refine e2_conG (H := 68) (n := 0) (C := evd_71) (S := S_a192) (I := I_a192) (fuel := 4000) hen ei_71 (e2_fa ((cs_a186 hen l hh).mono (by decide)) (e2_fa ((cs_a189 hen l hh).mono (by decide)) (e2_fa ((cs_a190 hen l hh).mono (by decide)) (e2_fa (cs_a191 hen l hh) e2_fz)))) e2_fz (by decide) co_a192 fun M d _ hC hcall p e R s m args below meth c Q D cA A ads r0 ha hl0 => ?_
  have L_0 : e2_gdM M p l e R s m args below meth c Q D cA A ads r0 2 al_a192_0 [] E_a192_0 h_a192_0 := by
    refine e2_indL (u := 2) (j := 1) (lo := 2147483649) (hi := 2147483652) (b := 2) (dd := 0) hl0 (by decide) rfl rfl (Or.inr ⟨rfl, rfl⟩) rfl ci_a192_0 cj_a192_0 ?_
    intro r_0 k_0 hk_0 hp_0 hs_0 hn_0
    have hl_0 : r_0.length ≤ 3 := hs_0.len rfl
    have ha_0 := ha.ext hp_0
    exact e2_fromM hen ha_0 hcall (e2_cutA_ok (e2_fa (fun al st E h hc => hn_0 al st E h hc) e2_fz)) (hC [9]) (X := e2x_71) ex2_71 2 ck_a192_0
  have EN_0 := e2_entL (u := 2) (j := 1) (lo := 2147483649) (hi := 2147483652) hl0 rfl rfl rfl ci_a192_0 cj_a192_0 L_0
  have L_1 : e2_gdM M p l e R s m args below meth c Q D cA A ads r0 2 al_a192_1 [] E_a192_1 h_a192_1 := by
    refine e2_indL (u := 2) (j := 1) (lo := 2147483648) (hi := 2147483648) (b := 2) (dd := 0) hl0 (by decide) rfl rfl (Or.inr ⟨rfl, rfl⟩) rfl ci_a192_1 cj_a192_1 ?_
    intro r_1 k_1 hk_1 hp_1 hs_1 hn_1
    have hl_1 : r_1.length ≤ 3 := hs_1.len rfl
    have ha_1 := ha.ext hp_1
    exact e2_fromM hen ha_1 hcall (e2_cutA_ok (e2_fa (fun al st E h hc => (EN_0 al st E h hc).ext hp_1) e2_fz)) (hC [9]) (X := e2x_71) ex2_71 2 ck_a192_1
  have EN_1 := e2_entL (u := 2) (j := 1) (lo := 2147483648) (hi := 2147483648) hl0 rfl rfl rfl ci_a192_1 cj_a192_1 L_1
  exact e2_from hen ha hcall (e2_cutA_ok (e2_fa (fun al st E h hc => EN_1 al st E h hc) e2_fz)) (hC [9]) (X := e2x_71) ex2_71 0 ck_a192_e
/-! a193 X4_fewestChanges -/
def as_a193 : List ev_V := [(2, 59, 0)]
def E_a193 : e2_E := [(2147483648, 2147583648, 0, 0), (2147483652, 2147483668, 1, 0)]
noncomputable def f_a193 : ev_H := (an747 : e2_Q8)
noncomputable def q_a193_0 : ev_H := (an747 : e2_Q8)
noncomputable def rs_a193 : e2_Rs := [((11, 2147483647, 2147483651), q_a193_0)]
noncomputable def s_a193 : e2_Sm := (71, as_a193, E_a193, f_a193, rs_a193)
noncomputable def S_a193 : List e2_Sm := [s_a188, s_a189, s_a190, s_a191]
noncomputable def I_a193 : List e2_In := []
set_option maxRecDepth 1000000 in
theorem co_a193 : e2_okSB E_a193.length as_a193 f_a193 rs_a193 = true := by decide +kernel
def al_a193_0 : List ev_V := [(2, 59, 0), (1, 2, 4294967296)]
def E_a193_0 : e2_E := [(2147483648, 2147583648, 0, 0), (2147483652, 2147483668, 1, 0), (2147483648, 2147483652, 2, 0)]
noncomputable def h_a193_0 : ev_H := (an747 : e2_Q8)
noncomputable def cl_a193_e : List (Nat × e2_S) := [(2, e2_cutL (al_a193_0.set 1 (11, 2147483648, 2147483652)) 2 (E_a193_0.take 2) h_a193_0)]
set_option maxRecDepth 1000000 in
theorem ck_a193_e : e2_run (e2_cal S_a193 I_a193 4000 0) (e2_fin rs_a193) e2x_71 (e2_bpL cl_a193_e) (e2_cutA cl_a193_e) 4000 (e2_seek e2x_71 0) (e2_al 2 as_a193) [] E_a193 f_a193 = true := by decide +kernel
noncomputable def cl_a193_0 : List (Nat × e2_S) := [(2, e2_cutL (al_a193_0.set 1 (13, 10, 2147483652)) 2 (E_a193_0.take 2) h_a193_0)]
set_option maxRecDepth 1000000 in
theorem ck_a193_0 : e2_runM (e2_cal S_a193 I_a193 4000 0) (e2_fin rs_a193) e2x_71 (e2_bpL cl_a193_0) (e2_cutA cl_a193_0) 4000 (e2_seek e2x_71 2) al_a193_0 [] E_a193_0 h_a193_0 = true := by decide +kernel
set_option maxRecDepth 1000000 in
theorem ci_a193_0 : e2_idl 2 (al_a193_0.set 1 (9, 0, 0)) = true := by decide +kernel
set_option maxRecDepth 1000000 in
theorem cj_a193_0 : e2_idh 2 8 h_a193_0 = true := by decide +kernel
theorem cs_a193 (hen : en_ok) (l : Launch) (hh : e2_hand_a l) : e2_smOk l 69 s_a193 := by
  refine e2_conG (H := 68) (n := 0) (C := evd_71) (S := S_a193) (I := I_a193) (fuel := 4000) hen ei_71 (e2_fa ((cs_a188 hen l hh).mono (by decide)) (e2_fa ((cs_a189 hen l hh).mono (by decide)) (e2_fa ((cs_a190 hen l hh).mono (by decide)) (e2_fa (cs_a191 hen l hh) e2_fz)))) e2_fz (by decide) co_a193 fun M d _ hC hcall p e R s m args below meth c Q D cA A ads r0 ha hl0 => ?_
  have L_0 : e2_gdM M p l e R s m args below meth c Q D cA A ads r0 2 al_a193_0 [] E_a193_0 h_a193_0 := by
    refine e2_indL (u := 2) (j := 1) (lo := 2147483648) (hi := 2147483652) (b := 2) (dd := 0) hl0 (by decide) rfl rfl (Or.inr ⟨rfl, rfl⟩) rfl ci_a193_0 cj_a193_0 ?_
    intro r_0 k_0 hk_0 hp_0 hs_0 hn_0
    have hl_0 : r_0.length ≤ 3 := hs_0.len rfl
    have ha_0 := ha.ext hp_0
    exact e2_fromM hen ha_0 hcall (e2_cutA_ok (e2_fa (fun al st E h hc => hn_0 al st E h hc) e2_fz)) (hC [9]) (X := e2x_71) ex2_71 2 ck_a193_0
  have EN_0 := e2_entL (u := 2) (j := 1) (lo := 2147483648) (hi := 2147483652) hl0 rfl rfl rfl ci_a193_0 cj_a193_0 L_0
  exact e2_from hen ha hcall (e2_cutA_ok (e2_fa (fun al st E h hc => EN_0 al st E h hc) e2_fz)) (hC [9]) (X := e2x_71) ex2_71 0 ck_a193_e
/-! a194 X4_cellsOfPart -/
def as_a194 : List ev_V := [(2, 59, 0), (11, 2147483649, 2147483903), (11, 2147483648, 2147483656)]
def E_a194 : e2_E := [(2147483648, 2147583648, 0, 0), (2147483652, 2147483668, 1, 0)]
def an749 : e2_Q2 := (an259, an120)
def an750 : e2_Q3 := (an118, an749)
def an751 : e2_Q4 := (an115, an750)
def an752 : e2_Q5 := (an108, an751)
def an753 : e2_Q6 := (an428, an752)
def an754 : e2_Q7 := (an62, an753)
def an755 : e2_Q7 := (an189, an734)
def an756 : e2_Q8 := (an754, an755)
noncomputable def f_a194 : ev_H := (an756 : e2_Q8)
noncomputable def q_a194_0 : ev_H := (an756 : e2_Q8)
noncomputable def rs_a194 : e2_Rs := [((11, 0, 4294967295), q_a194_0)]
noncomputable def s_a194 : e2_Sm := (77, as_a194, E_a194, f_a194, rs_a194)
noncomputable def S_a194 : List e2_Sm := []
noncomputable def I_a194 : List e2_In := [(159, 2, e2x_159)]
set_option maxRecDepth 1000000 in
theorem co_a194 : e2_okSB E_a194.length as_a194 f_a194 rs_a194 = true := by decide +kernel
def al_a194_0 : List ev_V := [(2, 59, 0), (11, 2147483649, 2147483903), (11, 2147483648, 2147483656), (11, 0, 4294967295), (1, 2, 4294967296)]
def E_a194_0 : e2_E := [(2147483648, 2147583648, 0, 0), (2147483652, 2147483668, 1, 0), (2147483648, 2147483656, 2, 0)]
noncomputable def h_a194_0 : ev_H := (an756 : e2_Q8)
noncomputable def cl_a194_e : List (Nat × e2_S) := [(5, e2_cutL (al_a194_0.set 4 (11, 2147483648, 2147483656)) 2 (E_a194_0.take 2) h_a194_0)]
set_option maxRecDepth 1000000 in
theorem ck_a194_e : e2_run (e2_cal S_a194 I_a194 4000 1) (e2_fin rs_a194) e2x_77 (e2_bpL cl_a194_e) (e2_cutA cl_a194_e) 4000 (e2_seek e2x_77 0) (e2_al 5 as_a194) [] E_a194 f_a194 = true := by decide +kernel
noncomputable def cl_a194_0 : List (Nat × e2_S) := [(5, e2_cutL (al_a194_0.set 4 (13, 10, 2147483656)) 2 (E_a194_0.take 2) h_a194_0)]
set_option maxRecDepth 1000000 in
theorem ck_a194_0 : e2_runM (e2_cal S_a194 I_a194 4000 1) (e2_fin rs_a194) e2x_77 (e2_bpL cl_a194_0) (e2_cutA cl_a194_0) 4000 (e2_seek e2x_77 5) al_a194_0 [] E_a194_0 h_a194_0 = true := by decide +kernel
set_option maxRecDepth 1000000 in
theorem ci_a194_0 : e2_idl 2 (al_a194_0.set 4 (9, 0, 0)) = true := by decide +kernel
set_option maxRecDepth 1000000 in
theorem cj_a194_0 : e2_idh 2 8 h_a194_0 = true := by decide +kernel
theorem cs_a194 (hen : en_ok) (l : Launch) : e2_smOk l 2 s_a194 := by
  refine e2_conG (H := 0) (n := 1) (C := evd_77) (S := S_a194) (I := I_a194) (fuel := 4000) hen ei_77 e2_fz (e2_fa ein_159 e2_fz) (by decide) co_a194 fun M d _ hC hcall p e R s m args below meth c Q D cA A ads r0 ha hl0 => ?_
  have L_0 : e2_gdM M p l e R s m args below meth c Q D cA A ads r0 5 al_a194_0 [] E_a194_0 h_a194_0 := by
    refine e2_indL (u := 2) (j := 4) (lo := 2147483648) (hi := 2147483656) (b := 2) (dd := 0) hl0 (by decide) rfl rfl (Or.inr ⟨rfl, rfl⟩) rfl ci_a194_0 cj_a194_0 ?_
    intro r_0 k_0 hk_0 hp_0 hs_0 hn_0
    have hl_0 : r_0.length ≤ 3 := hs_0.len rfl
    have ha_0 := ha.ext hp_0
    exact e2_fromM hen ha_0 hcall (e2_cutA_ok (e2_fa (fun al st E h hc => hn_0 al st E h hc) e2_fz)) (hC []) (X := e2x_77) ex2_77 5 ck_a194_0
  have EN_0 := e2_entL (u := 2) (j := 4) (lo := 2147483648) (hi := 2147483656) hl0 rfl rfl rfl ci_a194_0 cj_a194_0 L_0
  exact e2_from hen ha hcall (e2_cutA_ok (e2_fa (fun al st E h hc => EN_0 al st E h hc) e2_fz)) (hC []) (X := e2x_77) ex2_77 0 ck_a194_e
/-! a195 X4_layFirstOrder -/
def as_a195 : List ev_V := [(2, 59, 0), (11, 2147483648, 2147483656)]
def E_a195 : e2_E := [(2147483648, 2147583648, 0, 0), (2147483652, 2147483668, 1, 0)]
def an757 : e2_Q4 := (an52, an742)
def an758 : e2_Q5 := (an45, an757)
def an759 : e2_Q6 := (an30, an758)
def an760 : e2_Q7 := (an759, an753)
def ac177 : ev_C := (54, [(0, 256, 0), (11, 0, 4294967295)])
def an761 : e2_Q1 := (ac177, ac3)
def an762 : e2_Q2 := (an761, an247)
def an763 : e2_Q3 := (an245, an762)
def an764 : e2_Q4 := (an242, an763)
def an765 : e2_Q5 := (an235, an764)
def an766 : e2_Q6 := (an733, an765)
def an767 : e2_Q7 := (an189, an766)
def an768 : e2_Q8 := (an760, an767)
noncomputable def f_a195 : ev_H := (an768 : e2_Q8)
noncomputable def q_a195_0 : ev_H := (an768 : e2_Q8)
noncomputable def rs_a195 : e2_Rs := [((9, 0, 0), q_a195_0)]
noncomputable def s_a195 : e2_Sm := (79, as_a195, E_a195, f_a195, rs_a195)
noncomputable def S_a195 : List e2_Sm := []
noncomputable def I_a195 : List e2_In := [(64, 2, e2x_64), (159, 2, e2x_159)]
set_option maxRecDepth 1000000 in
theorem co_a195 : e2_okSB E_a195.length as_a195 f_a195 rs_a195 = true := by decide +kernel
def al_a195_0 : List ev_V := [(2, 59, 0), (11, 2147483649, 2147483656), (11, 2147483648, 2147483903), (1, 2, 4294967296), (11, 2147483648, 2147483655), (1, 3, 4294967296)]
def E_a195_0 : e2_E := [(2147483648, 2147583648, 0, 0), (2147483652, 2147483668, 1, 0), (2147483648, 2147483655, 2, 0), (2147483647, 2147483655, 3, 0)]
noncomputable def h_a195_0 : ev_H := (an768 : e2_Q8)
def al_a195_1 : List ev_V := [(2, 59, 0), (11, 2147483648, 2147483656), (11, 2147483648, 2147483903), (1, 2, 4294967296), (9, 0, 0), (9, 0, 0)]
def E_a195_1 : e2_E := [(2147483648, 2147583648, 0, 0), (2147483652, 2147483668, 1, 0), (2147483648, 2147483656, 2, 0)]
noncomputable def h_a195_1 : ev_H := (an768 : e2_Q8)
noncomputable def cl_a195_e : List (Nat × e2_S) := [(4, e2_cutL (al_a195_1.set 3 (11, 2147483648, 2147483656)) 2 (E_a195_1.take 2) h_a195_1)]
set_option maxRecDepth 1000000 in
theorem ck_a195_e : e2_run (e2_cal S_a195 I_a195 4000 1) (e2_fin rs_a195) e2x_79 (e2_bpL cl_a195_e) (e2_cutA cl_a195_e) 4000 (e2_seek e2x_79 0) (e2_al 6 as_a195) [] E_a195 f_a195 = true := by decide +kernel
noncomputable def cl_a195_0 : List (Nat × e2_S) := [(17, e2_cutL (al_a195_0.set 5 (12, 11, 2147483647)) 3 (E_a195_0.take 3) h_a195_0),
  (4, e2_cutL (al_a195_1.set 3 (13, 10, 2147483656)) 2 (E_a195_1.take 2) h_a195_1)]
set_option maxRecDepth 1000000 in
theorem ck_a195_0 : e2_runM (e2_cal S_a195 I_a195 4000 1) (e2_fin rs_a195) e2x_79 (e2_bpL cl_a195_0) (e2_cutA cl_a195_0) 4000 (e2_seek e2x_79 17) al_a195_0 [] E_a195_0 h_a195_0 = true := by decide +kernel
set_option maxRecDepth 1000000 in
theorem ci_a195_0 : e2_idl 3 (al_a195_0.set 5 (9, 0, 0)) = true := by decide +kernel
set_option maxRecDepth 1000000 in
theorem cj_a195_0 : e2_idh 3 8 h_a195_0 = true := by decide +kernel
noncomputable def cl_a195_1 : List (Nat × e2_S) := [(17, e2_cutL (al_a195_0.set 5 (11, 2147483647, 2147483655)) 3 (E_a195_0.take 3) h_a195_0)]
set_option maxRecDepth 1000000 in
theorem ck_a195_1 : e2_runM (e2_cal S_a195 I_a195 4000 1) (e2_fin rs_a195) e2x_79 (e2_bpL cl_a195_1) (e2_cutA cl_a195_1) 4000 (e2_seek e2x_79 4) al_a195_1 [] E_a195_1 h_a195_1 = true := by decide +kernel
set_option maxRecDepth 1000000 in
theorem ci_a195_1 : e2_idl 2 (al_a195_1.set 3 (9, 0, 0)) = true := by decide +kernel
set_option maxRecDepth 1000000 in
theorem cj_a195_1 : e2_idh 2 8 h_a195_1 = true := by decide +kernel
theorem cs_a195 (hen : en_ok) (l : Launch) : e2_smOk l 2 s_a195 := by
  refine e2_conG (H := 0) (n := 1) (C := evd_79) (S := S_a195) (I := I_a195) (fuel := 4000) hen ei_79 e2_fz (e2_fa ein_64 (e2_fa ein_159 e2_fz)) (by decide) co_a195 fun M d _ hC hcall p e R s m args below meth c Q D cA A ads r0 ha hl0 => ?_
  have L_1 : e2_gdM M p l e R s m args below meth c Q D cA A ads r0 4 al_a195_1 [] E_a195_1 h_a195_1 := by
    refine e2_indL (u := 2) (j := 3) (lo := 2147483648) (hi := 2147483656) (b := 2) (dd := 0) hl0 (by decide) rfl rfl (Or.inr ⟨rfl, rfl⟩) rfl ci_a195_1 cj_a195_1 ?_
    intro r_1 k_1 hk_1 hp_1 hs_1 hn_1
    have hl_1 : r_1.length ≤ 3 := hs_1.len rfl
    have ha_1 := ha.ext hp_1
    have L_0 : e2_gdM M p l e R s m args below meth c Q D cA A ads r_1 17 al_a195_0 [] E_a195_0 h_a195_0 := by
      refine e2_indD (u := 3) (j := 5) (lo := 2147483647) (hi := 2147483655) hl_1 (by decide) rfl rfl rfl ci_a195_0 cj_a195_0 ?_
      intro r_0 k_0 hk_0 hp_0 hs_0 hn_0
      have hl_0 : r_0.length ≤ 4 := hs_0.len rfl
      have ha_0 := ha_1.ext hp_0
      exact e2_fromM hen ha_0 hcall (e2_cutA_ok (e2_fa (fun al st E h hc => hn_0 al st E h hc) (e2_fa (fun al st E h hc => (hn_1 al st E h hc).ext hp_0) e2_fz))) (hC [37, 68]) (X := e2x_79) ex2_79 17 ck_a195_0
    have EN_0 := e2_entL (u := 3) (j := 5) (lo := 2147483647) (hi := 2147483655) hl_1 rfl rfl rfl ci_a195_0 cj_a195_0 L_0
    exact e2_fromM hen ha_1 hcall (e2_cutA_ok (e2_fa (fun al st E h hc => EN_0 al st E h hc) e2_fz)) (hC [37, 68]) (X := e2x_79) ex2_79 4 ck_a195_1
  have EN_1 := e2_entL (u := 2) (j := 3) (lo := 2147483648) (hi := 2147483656) hl0 rfl rfl rfl ci_a195_1 cj_a195_1 L_1
  exact e2_from hen ha hcall (e2_cutA_ok (e2_fa (fun al st E h hc => EN_1 al st E h hc) e2_fz)) (hC [37, 68]) (X := e2x_79) ex2_79 0 ck_a195_e
/-! a196 X4_listMembers -/
def as_a196 : List ev_V := [(2, 59, 0), (11, 0, 4294967295)]
def E_a196 : e2_E := [(2147483648, 2147583648, 0, 0), (2147483652, 2147483668, 1, 0)]
def an769 : e2_Q5 := (an301, an156)
def an770 : e2_Q6 := (an769, an188)
def an771 : e2_Q7 := (an770, an734)
def an772 : e2_Q8 := (an754, an771)
noncomputable def f_a196 : ev_H := (an772 : e2_Q8)
noncomputable def q_a196_0 : ev_H := (an772 : e2_Q8)
noncomputable def rs_a196 : e2_Rs := [((11, 2147483648, 2147483656), q_a196_0)]
noncomputable def s_a196 : e2_Sm := (76, as_a196, E_a196, f_a196, rs_a196)
noncomputable def S_a196 : List e2_Sm := []
noncomputable def I_a196 : List e2_In := [(159, 2, e2x_159)]
set_option maxRecDepth 1000000 in
theorem co_a196 : e2_okSB E_a196.length as_a196 f_a196 rs_a196 = true := by decide +kernel
def al_a196_0 : List ev_V := [(2, 59, 0), (11, 0, 4294967295), (11, 2147483648, 2147483656), (1, 2, 4294967296)]
def E_a196_0 : e2_E := [(2147483648, 2147583648, 0, 0), (2147483652, 2147483668, 1, 0), (2147483648, 2147483668, 2, 0)]
noncomputable def h_a196_0 : ev_H := (an772 : e2_Q8)
noncomputable def cl_a196_e : List (Nat × e2_S) := [(4, e2_cutL (al_a196_0.set 3 (11, 2147483648, 2147483668)) 2 (E_a196_0.take 2) h_a196_0)]
set_option maxRecDepth 1000000 in
theorem ck_a196_e : e2_run (e2_cal S_a196 I_a196 4000 1) (e2_fin rs_a196) e2x_76 (e2_bpL cl_a196_e) (e2_cutA cl_a196_e) 4000 (e2_seek e2x_76 0) (e2_al 4 as_a196) [] E_a196 f_a196 = true := by decide +kernel
noncomputable def cl_a196_0 : List (Nat × e2_S) := [(4, e2_cutL (al_a196_0.set 3 (13, 10, 2147483668)) 2 (E_a196_0.take 2) h_a196_0)]
set_option maxRecDepth 1000000 in
theorem ck_a196_0 : e2_runM (e2_cal S_a196 I_a196 4000 1) (e2_fin rs_a196) e2x_76 (e2_bpL cl_a196_0) (e2_cutA cl_a196_0) 4000 (e2_seek e2x_76 4) al_a196_0 [] E_a196_0 h_a196_0 = true := by decide +kernel
set_option maxRecDepth 1000000 in
theorem ci_a196_0 : e2_idl 2 (al_a196_0.set 3 (9, 0, 0)) = true := by decide +kernel
set_option maxRecDepth 1000000 in
theorem cj_a196_0 : e2_idh 2 8 h_a196_0 = true := by decide +kernel
theorem cs_a196 (hen : en_ok) (l : Launch) : e2_smOk l 2 s_a196 := by
  refine e2_conG (H := 0) (n := 1) (C := evd_76) (S := S_a196) (I := I_a196) (fuel := 4000) hen ei_76 e2_fz (e2_fa ein_159 e2_fz) (by decide) co_a196 fun M d _ hC hcall p e R s m args below meth c Q D cA A ads r0 ha hl0 => ?_
  have L_0 : e2_gdM M p l e R s m args below meth c Q D cA A ads r0 4 al_a196_0 [] E_a196_0 h_a196_0 := by
    refine e2_indL (u := 2) (j := 3) (lo := 2147483648) (hi := 2147483668) (b := 2) (dd := 0) hl0 (by decide) rfl rfl (Or.inr ⟨rfl, rfl⟩) rfl ci_a196_0 cj_a196_0 ?_
    intro r_0 k_0 hk_0 hp_0 hs_0 hn_0
    have hl_0 : r_0.length ≤ 3 := hs_0.len rfl
    have ha_0 := ha.ext hp_0
    exact e2_fromM hen ha_0 hcall (e2_cutA_ok (e2_fa (fun al st E h hc => hn_0 al st E h hc) e2_fz)) (hC []) (X := e2x_76) ex2_76 4 ck_a196_0
  have EN_0 := e2_entL (u := 2) (j := 3) (lo := 2147483648) (hi := 2147483668) hl0 rfl rfl rfl ci_a196_0 cj_a196_0 L_0
  exact e2_from hen ha hcall (e2_cutA_ok (e2_fa (fun al st E h hc => EN_0 al st E h hc) e2_fz)) (hC []) (X := e2x_76) ex2_76 0 ck_a196_e
/-! a197 X4_waysOn -/
def as_a197 : List ev_V := [(2, 59, 0), (11, 2147483648, 2147483903), (11, 2147483648, 2147483656)]
def E_a197 : e2_E := [(2147483648, 2147583648, 0, 0), (2147483652, 2147483668, 1, 0)]
def an773 : e2_Q8 := (an430, an767)
noncomputable def f_a197 : ev_H := (an773 : e2_Q8)
noncomputable def q_a197_0 : ev_H := (an773 : e2_Q8)
noncomputable def rs_a197 : e2_Rs := [((11, 0, 4294967295), q_a197_0)]
noncomputable def s_a197 : e2_Sm := (78, as_a197, E_a197, f_a197, rs_a197)
noncomputable def S_a197 : List e2_Sm := []
noncomputable def I_a197 : List e2_In := [(159, 2, e2x_159)]
set_option maxRecDepth 1000000 in
theorem co_a197 : e2_okSB E_a197.length as_a197 f_a197 rs_a197 = true := by decide +kernel
def al_a197_0 : List ev_V := [(2, 59, 0), (11, 2147483648, 2147483903), (11, 2147483648, 2147483656), (11, 0, 4294967295), (1, 2, 4294967296)]
def E_a197_0 : e2_E := [(2147483648, 2147583648, 0, 0), (2147483652, 2147483668, 1, 0), (2147483648, 2147483656, 2, 0)]
noncomputable def h_a197_0 : ev_H := (an773 : e2_Q8)
noncomputable def cl_a197_e : List (Nat × e2_S) := [(5, e2_cutL (al_a197_0.set 4 (11, 2147483648, 2147483656)) 2 (E_a197_0.take 2) h_a197_0)]
set_option maxRecDepth 1000000 in
theorem ck_a197_e : e2_run (e2_cal S_a197 I_a197 4000 1) (e2_fin rs_a197) e2x_78 (e2_bpL cl_a197_e) (e2_cutA cl_a197_e) 4000 (e2_seek e2x_78 0) (e2_al 5 as_a197) [] E_a197 f_a197 = true := by decide +kernel
noncomputable def cl_a197_0 : List (Nat × e2_S) := [(5, e2_cutL (al_a197_0.set 4 (13, 10, 2147483656)) 2 (E_a197_0.take 2) h_a197_0)]
set_option maxRecDepth 1000000 in
theorem ck_a197_0 : e2_runM (e2_cal S_a197 I_a197 4000 1) (e2_fin rs_a197) e2x_78 (e2_bpL cl_a197_0) (e2_cutA cl_a197_0) 4000 (e2_seek e2x_78 5) al_a197_0 [] E_a197_0 h_a197_0 = true := by decide +kernel
set_option maxRecDepth 1000000 in
theorem ci_a197_0 : e2_idl 2 (al_a197_0.set 4 (9, 0, 0)) = true := by decide +kernel
set_option maxRecDepth 1000000 in
theorem cj_a197_0 : e2_idh 2 8 h_a197_0 = true := by decide +kernel
theorem cs_a197 (hen : en_ok) (l : Launch) : e2_smOk l 2 s_a197 := by
  refine e2_conG (H := 0) (n := 1) (C := evd_78) (S := S_a197) (I := I_a197) (fuel := 4000) hen ei_78 e2_fz (e2_fa ein_159 e2_fz) (by decide) co_a197 fun M d _ hC hcall p e R s m args below meth c Q D cA A ads r0 ha hl0 => ?_
  have L_0 : e2_gdM M p l e R s m args below meth c Q D cA A ads r0 5 al_a197_0 [] E_a197_0 h_a197_0 := by
    refine e2_indL (u := 2) (j := 4) (lo := 2147483648) (hi := 2147483656) (b := 2) (dd := 0) hl0 (by decide) rfl rfl (Or.inr ⟨rfl, rfl⟩) rfl ci_a197_0 cj_a197_0 ?_
    intro r_0 k_0 hk_0 hp_0 hs_0 hn_0
    have hl_0 : r_0.length ≤ 3 := hs_0.len rfl
    have ha_0 := ha.ext hp_0
    exact e2_fromM hen ha_0 hcall (e2_cutA_ok (e2_fa (fun al st E h hc => hn_0 al st E h hc) e2_fz)) (hC [27]) (X := e2x_78) ex2_78 5 ck_a197_0
  have EN_0 := e2_entL (u := 2) (j := 4) (lo := 2147483648) (hi := 2147483656) hl0 rfl rfl rfl ci_a197_0 cj_a197_0 L_0
  exact e2_from hen ha hcall (e2_cutA_ok (e2_fa (fun al st E h hc => EN_0 al st E h hc) e2_fz)) (hC [27]) (X := e2x_78) ex2_78 0 ck_a197_e
/-! a198 X4_countOrders -/
def as_a198 : List ev_V := [(2, 59, 0), (11, 0, 4294967295)]
def E_a198 : e2_E := [(2147483648, 2147583648, 0, 0), (2147483652, 2147483668, 1, 0)]
def an774 : e2_Q5 := (an381, an751)
def an775 : e2_Q6 := (an377, an774)
def an776 : e2_Q7 := (an745, an775)
def an777 : e2_Q5 := (an397, an764)
def an778 : e2_Q6 := (an688, an777)
def an779 : e2_Q7 := (an392, an778)
def an780 : e2_Q8 := (an776, an779)
noncomputable def f_a198 : ev_H := (an780 : e2_Q8)
def an781 : e2_Q5 := (an414, an764)
def an782 : e2_Q6 := (an688, an781)
def an783 : e2_Q7 := (an411, an782)
def an784 : e2_Q8 := (an776, an783)
noncomputable def q_a198_0 : ev_H := (an784 : e2_Q8)
noncomputable def q_a198_1 : ev_H := (an780 : e2_Q8)
noncomputable def rs_a198 : e2_Rs := [((11, 0, 4294967295), q_a198_0), ((11, 0, 4294967295), q_a198_1)]
noncomputable def s_a198 : e2_Sm := (75, as_a198, E_a198, f_a198, rs_a198)
noncomputable def S_a198 : List e2_Sm := [s_a178, s_a179, s_a194, s_a195, s_a196, s_a197]
noncomputable def I_a198 : List e2_In := []
set_option maxRecDepth 1000000 in
theorem co_a198 : e2_okSB E_a198.length as_a198 f_a198 rs_a198 = true := by decide +kernel
def al_a198_0 : List ev_V := [(2, 59, 0), (11, 0, 4294967295), (11, 2147483648, 2147483656), (11, 2147483648, 2147483903), (1, 2, 4294967296)]
def E_a198_0 : e2_E := [(2147483648, 2147583648, 0, 0), (2147483652, 2147483668, 1, 0), (2147483647, 2147483902, 2, 0)]
noncomputable def h_a198_0 : ev_H := (an784 : e2_Q8)
def al_a198_1 : List ev_V := [(2, 59, 0), (11, 0, 4294967295), (11, 2147483648, 2147483656), (11, 2147483648, 2147483903), (1, 2, 4294967296)]
def E_a198_1 : e2_E := [(2147483648, 2147583648, 0, 0), (2147483652, 2147483668, 1, 0), (2147483647, 2147483903, 2, 0)]
noncomputable def h_a198_1 : ev_H := (an780 : e2_Q8)
noncomputable def cl_a198_e : List (Nat × e2_S) := [(22, e2_cutL (al_a198_1.set 4 (11, 2147483647, 2147483903)) 2 (E_a198_1.take 2) h_a198_1)]
set_option maxRecDepth 1000000 in
theorem ck_a198_e : e2_run (e2_cal S_a198 I_a198 4000 0) (e2_fin rs_a198) e2x_75 (e2_bpL cl_a198_e) (e2_cutA cl_a198_e) 4000 (e2_seek e2x_75 0) (e2_al 5 as_a198) [] E_a198 f_a198 = true := by decide +kernel
noncomputable def cl_a198_0 : List (Nat × e2_S) := [(22, e2_cutL (al_a198_0.set 4 (12, 10, 2147483647)) 2 (E_a198_0.take 2) h_a198_0)]
set_option maxRecDepth 1000000 in
theorem ck_a198_0 : e2_runM (e2_cal S_a198 I_a198 4000 0) (e2_fin rs_a198) e2x_75 (e2_bpL cl_a198_0) (e2_cutA cl_a198_0) 4000 (e2_seek e2x_75 22) al_a198_0 [] E_a198_0 h_a198_0 = true := by decide +kernel
set_option maxRecDepth 1000000 in
theorem ci_a198_0 : e2_idl 2 (al_a198_0.set 4 (9, 0, 0)) = true := by decide +kernel
set_option maxRecDepth 1000000 in
theorem cj_a198_0 : e2_idh 2 8 h_a198_0 = true := by decide +kernel
noncomputable def cl_a198_1 : List (Nat × e2_S) := [(22, e2_cutL (al_a198_0.set 4 (11, 2147483647, 2147483902)) 2 (E_a198_0.take 2) h_a198_0),
  (22, e2_cutL (al_a198_1.set 4 (12, 10, 2147483647)) 2 (E_a198_1.take 2) h_a198_1)]
set_option maxRecDepth 1000000 in
theorem ck_a198_1 : e2_runM (e2_cal S_a198 I_a198 4000 0) (e2_fin rs_a198) e2x_75 (e2_bpL cl_a198_1) (e2_cutA cl_a198_1) 4000 (e2_seek e2x_75 22) al_a198_1 [] E_a198_1 h_a198_1 = true := by decide +kernel
set_option maxRecDepth 1000000 in
theorem ci_a198_1 : e2_idl 2 (al_a198_1.set 4 (9, 0, 0)) = true := by decide +kernel
set_option maxRecDepth 1000000 in
theorem cj_a198_1 : e2_idh 2 8 h_a198_1 = true := by decide +kernel
theorem cs_a198 (hen : en_ok) (l : Launch) (hh : e2_hand_a l) : e2_smOk l 62 s_a198 := by
  refine e2_conG (H := 61) (n := 0) (C := evd_75) (S := S_a198) (I := I_a198) (fuel := 4000) hen ei_75 (e2_fa (cs_a178 hen l hh) (e2_fa (cs_a179 hen l hh) (e2_fa ((cs_a194 hen l).mono (by decide)) (e2_fa ((cs_a195 hen l).mono (by decide)) (e2_fa ((cs_a196 hen l).mono (by decide)) (e2_fa ((cs_a197 hen l).mono (by decide)) e2_fz)))))) e2_fz (by decide) co_a198 fun M d _ hC hcall p e R s m args below meth c Q D cA A ads r0 ha hl0 => ?_
  have L_0 : e2_gdM M p l e R s m args below meth c Q D cA A ads r0 22 al_a198_0 [] E_a198_0 h_a198_0 := by
    refine e2_indD (u := 2) (j := 4) (lo := 2147483647) (hi := 2147483902) hl0 (by decide) rfl rfl rfl ci_a198_0 cj_a198_0 ?_
    intro r_0 k_0 hk_0 hp_0 hs_0 hn_0
    have hl_0 : r_0.length ≤ 3 := hs_0.len rfl
    have ha_0 := ha.ext hp_0
    exact e2_fromM hen ha_0 hcall (e2_cutA_ok (e2_fa (fun al st E h hc => hn_0 al st E h hc) e2_fz)) (hC [7]) (X := e2x_75) ex2_75 22 ck_a198_0
  have EN_0 := e2_entL (u := 2) (j := 4) (lo := 2147483647) (hi := 2147483902) hl0 rfl rfl rfl ci_a198_0 cj_a198_0 L_0
  have L_1 : e2_gdM M p l e R s m args below meth c Q D cA A ads r0 22 al_a198_1 [] E_a198_1 h_a198_1 := by
    refine e2_indD (u := 2) (j := 4) (lo := 2147483647) (hi := 2147483903) hl0 (by decide) rfl rfl rfl ci_a198_1 cj_a198_1 ?_
    intro r_1 k_1 hk_1 hp_1 hs_1 hn_1
    have hl_1 : r_1.length ≤ 3 := hs_1.len rfl
    have ha_1 := ha.ext hp_1
    exact e2_fromM hen ha_1 hcall (e2_cutA_ok (e2_fa (fun al st E h hc => (EN_0 al st E h hc).ext hp_1) (e2_fa (fun al st E h hc => hn_1 al st E h hc) e2_fz))) (hC [7]) (X := e2x_75) ex2_75 22 ck_a198_1
  have EN_1 := e2_entL (u := 2) (j := 4) (lo := 2147483647) (hi := 2147483903) hl0 rfl rfl rfl ci_a198_1 cj_a198_1 L_1
  exact e2_from hen ha hcall (e2_cutA_ok (e2_fa (fun al st E h hc => EN_1 al st E h hc) e2_fz)) (hC [7]) (X := e2x_75) ex2_75 0 ck_a198_e
