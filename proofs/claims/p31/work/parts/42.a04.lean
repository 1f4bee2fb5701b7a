/-! CONTRACTS a, printed by a program -/
/-! a171 X5_weighEverywhere -/
def as_a171 : List ev_V := [(2, 65, 0), (11, 2147483648, 2147483655), (0, 4294967295, 0)]
def E_a171 : e2_E := [(2147483648, 2147583648, 0, 0)]
def ac162 : ev_C := (54, [(0, 160, 0), (11, 0, 4294967295)])
def an518 : e2_Q1 := (ac162, ac3)
def an519 : e2_Q2 := (an63, an518)
def an520 : e2_Q3 := (an519, an266)
def an521 : e2_Q4 := (an520, an76)
def an522 : e2_Q5 := (an521, an92)
def an523 : e2_Q6 := (an522, an124)
def an524 : e2_Q7 := (an355, an523)
def an525 : e2_Q4 := (an329, an140)
def an526 : e2_Q5 := (an525, an156)
def an527 : e2_Q6 := (an526, an366)
def an528 : e2_Q7 := (an527, an411)
def an529 : e2_Q8 := (an524, an528)
noncomputable def f_a171 : ev_H := (an529 : e2_Q8)
noncomputable def q_a171_0 : ev_H := (an529 : e2_Q8)
noncomputable def rs_a171 : e2_Rs := [((9, 0, 0), q_a171_0)]
noncomputable def s_a171 : e2_Sm := (87, as_a171, E_a171, f_a171, rs_a171)
noncomputable def S_a171 : List e2_Sm := [s_a9]
noncomputable def I_a171 : List e2_In := [(160, 2, e2x_160)]
set_option maxRecDepth 1000000 in
theorem co_a171 : e2_okSB E_a171.length as_a171 f_a171 rs_a171 = true := by decide +kernel
def al_a171_0 : List ev_V := [(2, 65, 0), (11, 2147483648, 2147483655), (0, 4294967295, 0), (1, 1, 4294967296)]
def E_a171_0 : e2_E := [(2147483648, 2147583648, 0, 0), (2147483648, 2147483668, 1, 0)]
noncomputable def h_a171_0 : ev_H := (an529 : e2_Q8)
noncomputable def cl_a171_e : List (Nat × e2_S) := [(2, e2_cutL (al_a171_0.set 3 (11, 2147483648, 2147483668)) 1 (E_a171_0.take 1) h_a171_0)]
set_option maxRecDepth 1000000 in
theorem ck_a171_e : e2_run (e2_cal S_a171 I_a171 4000 1) (e2_fin rs_a171) e2x_87 (e2_bpL cl_a171_e) (e2_cutA cl_a171_e) 4000 (e2_seek e2x_87 0) (e2_al 4 as_a171) [] E_a171 f_a171 = true := by decide +kernel
noncomputable def cl_a171_0 : List (Nat × e2_S) := [(2, e2_cutL (al_a171_0.set 3 (13, 9, 2147483668)) 1 (E_a171_0.take 1) h_a171_0)]
set_option maxRecDepth 1000000 in
theorem ck_a171_0 : e2_runM (e2_cal S_a171 I_a171 4000 1) (e2_fin rs_a171) e2x_87 (e2_bpL cl_a171_0) (e2_cutA cl_a171_0) 4000 (e2_seek e2x_87 2) al_a171_0 [] E_a171_0 h_a171_0 = true := by decide +kernel
set_option maxRecDepth 1000000 in
theorem ci_a171_0 : e2_idl 1 (al_a171_0.set 3 (9, 0, 0)) = true := by decide +kernel
set_option maxRecDepth 1000000 in
theorem cj_a171_0 : e2_idh 1 8 h_a171_0 = true := by decide +kernel
theorem cs_a171 (hen : en_ok) (l : Launch) : e2_smOk l 4 s_a171 := by
  refine e2_conG (H := 2) (n := 1) (C := evd_87) (S := S_a171) (I := I_a171) (fuel := 4000) hen ei_87 (e2_fa (cs_a9 hen l) e2_fz) (e2_fa ein_160 e2_fz) (by decide) co_a171 fun M d _ hC hcall p e R s m args below meth c Q D cA A ads r0 ha hl0 => ?_
  have L_0 : e2_gdM M p l e R s m args below meth c Q D cA A ads r0 2 al_a171_0 [] E_a171_0 h_a171_0 := by
    refine e2_indL (u := 1) (j := 3) (lo := 2147483648) (hi := 2147483668) (b := 1) (dd := 0) hl0 (by decide) rfl rfl (Or.inr ⟨rfl, rfl⟩) rfl ci_a171_0 cj_a171_0 ?_
    intro r_0 k_0 hk_0 hp_0 hs_0 hn_0
    have hl_0 : r_0.length ≤ 2 := hs_0.len rfl
    have ha_0 := ha.ext hp_0
    exact e2_fromM hen ha_0 hcall (e2_cutA_ok (e2_fa (fun al st E h hc => hn_0 al st E h hc) e2_fz)) (hC []) (X := e2x_87) ex2_87 2 ck_a171_0
  have EN_0 := e2_entL (u := 1) (j := 3) (lo := 2147483648) (hi := 2147483668) hl0 rfl rfl rfl ci_a171_0 cj_a171_0 L_0
  exact e2_from hen ha hcall (e2_cutA_ok (e2_fa (fun al st E h hc => EN_0 al st E h hc) e2_fz)) (hC []) (X := e2x_87) ex2_87 0 ck_a171_e
/-! a172 X5_begin -/
def as_a172 : List ev_V := [(2, 65, 0), (2, 1, 0), (2, 36, 0), (0, 4294967295, 0)]
def E_a172 : e2_E := [(2147483648, 2147583648, 0, 0)]
def ac163 : ev_C := (54, [(0, 189, 0), (11, 0, 4294967295)])
def an530 : e2_Q1 := (ac163, ac3)
def an531 : e2_Q2 := (an15, an530)
def an532 : e2_Q3 := (an531, an20)
def an533 : e2_Q4 := (an532, an28)
def an534 : e2_Q5 := (an14, an533)
def ac164 : ev_C := (6, [(11, 0, 4294967295), (11, 0, 4294967295), (11, 0, 4294967295), (2, 38, 0), (2, 37, 0), (2, 39, 0)])
def an535 : e2_Q1 := (ac164, ac3)
def an536 : e2_Q2 := (an535, an35)
def an537 : e2_Q3 := (an256, an536)
def an538 : e2_Q4 := (an537, an44)
def an539 : e2_Q5 := (an538, an353)
def an540 : e2_Q6 := (an534, an539)
def an541 : e2_Q2 := (an275, an530)
def an542 : e2_Q3 := (an541, an99)
def an543 : e2_Q4 := (an542, an107)
def an544 : e2_Q5 := (an543, an123)
def an545 : e2_Q6 := (an522, an544)
def an546 : e2_Q7 := (an540, an545)
def an547 : e2_Q4 := (an287, an140)
def an548 : e2_Q5 := (an547, an156)
def ac165 : ev_C := (54, [(0, 4, 0), (11, 0, 4294967295)])
def an549 : e2_Q1 := (ac165, ac3)
def an550 : e2_Q2 := (an549, an162)
def an551 : e2_Q3 := (an298, an550)
def an552 : e2_Q4 := (an551, an171)
def an553 : e2_Q5 := (an552, an365)
def an554 : e2_Q6 := (an548, an553)
def ac166 : ev_C := (54, [(0, 8, 0), (11, 2147483648, 2147483651)])
def an555 : e2_Q1 := (ac166, ac3)
def an556 : e2_Q2 := (an555, an222)
def an557 : e2_Q3 := (an556, an226)
def an558 : e2_Q4 := (an557, an234)
def an559 : e2_Q5 := (an558, an250)
def an560 : e2_Q6 := (an410, an559)
def an561 : e2_Q7 := (an554, an560)
def an562 : e2_Q8 := (an546, an561)
noncomputable def f_a172 : ev_H := (an562 : e2_Q8)
def an563 : e2_Q6 := (an526, an553)
def an564 : e2_Q7 := (an563, an560)
def an565 : e2_Q8 := (an546, an564)
noncomputable def q_a172_0 : ev_H := (an565 : e2_Q8)
noncomputable def rs_a172 : e2_Rs := [((9, 0, 0), q_a172_0)]
noncomputable def s_a172 : e2_Sm := (86, as_a172, E_a172, f_a172, rs_a172)
noncomputable def S_a172 : List e2_Sm := [s_a171]
noncomputable def I_a172 : List e2_In := []
set_option maxRecDepth 1000000 in
theorem co_a172 : e2_okSB E_a172.length as_a172 f_a172 rs_a172 = true := by decide +kernel
def al_a172_0 : List ev_V := [(2, 65, 0), (2, 1, 0), (2, 36, 0), (0, 4294967295, 0), (11, 2147483652, 2147483668), (1, 1, 4294967296)]
def E_a172_0 : e2_E := [(2147483648, 2147583648, 0, 0), (2147483648, 2147483656, 1, 0)]
noncomputable def h_a172_0 : ev_H := (an565 : e2_Q8)
noncomputable def cl_a172_e : List (Nat × e2_S) := [(74, e2_cutL (al_a172_0.set 5 (11, 2147483648, 2147483656)) 1 (E_a172_0.take 1) h_a172_0)]
set_option maxRecDepth 1000000 in
theorem ck_a172_e : e2_run (e2_cal S_a172 I_a172 4000 0) (e2_fin rs_a172) e2x_86 (e2_bpL cl_a172_e) (e2_cutA cl_a172_e) 4000 (e2_seek e2x_86 0) (e2_al 6 as_a172) [] E_a172 f_a172 = true := by decide +kernel
noncomputable def cl_a172_0 : List (Nat × e2_S) := [(74, e2_cutL (al_a172_0.set 5 (13, 9, 2147483656)) 1 (E_a172_0.take 1) h_a172_0)]
set_option maxRecDepth 1000000 in
theorem ck_a172_0 : e2_runM (e2_cal S_a172 I_a172 4000 0) (e2_fin rs_a172) e2x_86 (e2_bpL cl_a172_0) (e2_cutA cl_a172_0) 4000 (e2_seek e2x_86 74) al_a172_0 [] E_a172_0 h_a172_0 = true := by decide +kernel
set_option maxRecDepth 1000000 in
theorem ci_a172_0 : e2_idl 1 (al_a172_0.set 5 (9, 0, 0)) = true := by decide +kernel
set_option maxRecDepth 1000000 in
theorem cj_a172_0 : e2_idh 1 8 h_a172_0 = true := by decide +kernel
theorem cs_a172 (hen : en_ok) (l : Launch) : e2_smOk l 5 s_a172 := by
  refine e2_conG (H := 4) (n := 0) (C := evd_86) (S := S_a172) (I := I_a172) (fuel := 4000) hen ei_86 (e2_fa (cs_a171 hen l) e2_fz) e2_fz (by decide) co_a172 fun M d _ hC hcall p e R s m args below meth c Q D cA A ads r0 ha hl0 => ?_
  have L_0 : e2_gdM M p l e R s m args below meth c Q D cA A ads r0 74 al_a172_0 [] E_a172_0 h_a172_0 := by
    refine e2_indL (u := 1) (j := 5) (lo := 2147483648) (hi := 2147483656) (b := 1) (dd := 0) hl0 (by decide) rfl rfl (Or.inr ⟨rfl, rfl⟩) rfl ci_a172_0 cj_a172_0 ?_
    intro r_0 k_0 hk_0 hp_0 hs_0 hn_0
    have hl_0 : r_0.length ≤ 2 := hs_0.len rfl
    have ha_0 := ha.ext hp_0
    exact e2_fromM hen ha_0 hcall (e2_cutA_ok (e2_fa (fun al st E h hc => hn_0 al st E h hc) e2_fz)) (hC []) (X := e2x_86) ex2_86 74 ck_a172_0
  have EN_0 := e2_entL (u := 1) (j := 5) (lo := 2147483648) (hi := 2147483656) hl0 rfl rfl rfl ci_a172_0 cj_a172_0 L_0
  exact e2_from hen ha hcall (e2_cutA_ok (e2_fa (fun al st E h hc => EN_0 al st E h hc) e2_fz)) (hC []) (X := e2x_86) ex2_86 0 ck_a172_e
/-! a173 X4_begin -/
def as_a173 : List ev_V := [(2, 59, 0), (2, 1, 0), (2, 36, 0)]
def E_a173 : e2_E := [(2147483648, 2147583648, 0, 0)]
def ac167 : ev_C := (4, [(2, 65, 0), (2, 63, 0), (7, 0, 0), (11, 0, 4294967295), (2, 62, 0), (11, 0, 4294967295), (11, 2147483648, 2147483668), (2, 60, 0), (11, 2147483648, 2147483668), (11, 0, 4294967295), (11, 0, 4294967295), (2, 61, 0), (2, 64, 0), (11, 2147483648, 2147483651)])
def an566 : e2_Q1 := (ac167, ac3)
def an567 : e2_Q2 := (an566, an216)
def an568 : e2_Q3 := (an214, an567)
def an569 : e2_Q4 := (an370, an568)
def an570 : e2_Q5 := (an409, an569)
def an571 : e2_Q6 := (an570, an559)
def an572 : e2_Q7 := (an554, an571)
def an573 : e2_Q8 := (an546, an572)
noncomputable def f_a173 : ev_H := (an573 : e2_Q8)
def ac168 : ev_C := (4, [(2, 65, 0), (2, 63, 0), (2, 1, 0), (11, 0, 4294967295), (2, 62, 0), (11, 0, 4294967295), (11, 2147483648, 2147483668), (2, 60, 0), (11, 2147483648, 2147483668), (11, 0, 4294967295), (11, 0, 4294967295), (2, 61, 0), (2, 64, 0), (11, 2147483648, 2147483651)])
def an574 : e2_Q1 := (ac168, ac3)
def an575 : e2_Q2 := (an574, an216)
def an576 : e2_Q3 := (an214, an575)
def an577 : e2_Q4 := (an370, an576)
def an578 : e2_Q5 := (an409, an577)
def an579 : e2_Q6 := (an578, an559)
def an580 : e2_Q7 := (an563, an579)
def an581 : e2_Q8 := (an546, an580)
noncomputable def q_a173_0 : ev_H := (an581 : e2_Q8)
noncomputable def rs_a173 : e2_Rs := [((9, 0, 0), q_a173_0)]
noncomputable def s_a173 : e2_Sm := (66, as_a173, E_a173, f_a173, rs_a173)
noncomputable def S_a173 : List e2_Sm := [s_a172]
noncomputable def I_a173 : List e2_In := []
set_option maxRecDepth 1000000 in
theorem ck_a173 : e2_run (e2_cal S_a173 I_a173 4000 0) (e2_fin rs_a173) e2x_66 (fun _ => false) (fun _ _ _ _ _ => false) 4000 (e2_seek e2x_66 0) (e2_al 3 as_a173) [] E_a173 f_a173 = true := by decide +kernel
set_option maxRecDepth 1000000 in
theorem co_a173 : e2_okSB E_a173.length as_a173 f_a173 rs_a173 = true := by decide +kernel
theorem cs_a173 (hen : en_ok) (l : Launch) : e2_smOk l 6 s_a173 := e2_con0 (H := 5) (n := 0) (C := evd_66) (S := S_a173) (I := I_a173) (fuel := 4000) [] hen ei_66 (e2_fa (cs_a172 hen l) e2_fz) e2_fz (by decide) co_a173 ex2_66 ck_a173
/-! a174 X5_choose -/
def as_a174 : List ev_V := [(2, 65, 0), (11, 2147483648, 2147483667), (11, 2147483648, 2147483656), (11, 2147483648, 2147483903)]
def E_a174 : e2_E := [(2147483648, 2147583648, 0, 0)]
def an582 : e2_Q6 := (an534, an61)
def ac169 : ev_C := (54, [(0, 8, 0), (11, 0, 4294967295)])
def an583 : e2_Q1 := (ac169, ac3)
def an584 : e2_Q2 := (an78, an583)
def an585 : e2_Q3 := (an584, an83)
def an586 : e2_Q4 := (an585, an91)
def an587 : e2_Q5 := (an341, an586)
def an588 : e2_Q2 := (an94, an530)
def an589 : e2_Q3 := (an588, an99)
def an590 : e2_Q4 := (an589, an107)
def an591 : e2_Q5 := (an590, an123)
def an592 : e2_Q6 := (an587, an591)
def an593 : e2_Q7 := (an582, an592)
def an594 : e2_Q2 := (an127, an327)
def an595 : e2_Q3 := (an594, an132)
def an596 : e2_Q4 := (an595, an140)
def an597 : e2_Q2 := (an142, an583)
def an598 : e2_Q3 := (an597, an147)
def an599 : e2_Q4 := (an598, an155)
def an600 : e2_Q5 := (an596, an599)
def an601 : e2_Q6 := (an600, an188)
def an602 : e2_Q5 := (an318, an250)
def an603 : e2_Q6 := (an346, an602)
def an604 : e2_Q7 := (an601, an603)
def an605 : e2_Q8 := (an593, an604)
noncomputable def f_a174 : ev_H := (an605 : e2_Q8)
noncomputable def q_a174_0 : ev_H := (an605 : e2_Q8)
noncomputable def rs_a174 : e2_Rs := [((9, 0, 0), q_a174_0)]
noncomputable def s_a174 : e2_Sm := (93, as_a174, E_a174, f_a174, rs_a174)
noncomputable def S_a174 : List e2_Sm := []
noncomputable def I_a174 : List e2_In := [(159, 2, e2x_159)]
set_option maxRecDepth 1000000 in
theorem co_a174 : e2_okSB E_a174.length as_a174 f_a174 rs_a174 = true := by decide +kernel
def al_a174_0 : List ev_V := [(2, 65, 0), (11, 2147483648, 2147483667), (11, 2147483648, 2147483656), (11, 2147483648, 2147483903), (11, 0, 2148483648), (11, 2147483647, 2147483655), (1, 1, 4294967296)]
def E_a174_0 : e2_E := [(2147483648, 2147583648, 0, 0), (2147483648, 2147483656, 1, 0)]
noncomputable def h_a174_0 : ev_H := (an605 : e2_Q8)
noncomputable def cl_a174_e : List (Nat × e2_S) := [(9, e2_cutL (al_a174_0.set 6 (11, 2147483648, 2147483656)) 1 (E_a174_0.take 1) h_a174_0)]
set_option maxRecDepth 1000000 in
theorem ck_a174_e : e2_run (e2_cal S_a174 I_a174 4000 1) (e2_fin rs_a174) e2x_93 (e2_bpL cl_a174_e) (e2_cutA cl_a174_e) 4000 (e2_seek e2x_93 0) (e2_al 7 as_a174) [] E_a174 f_a174 = true := by decide +kernel
noncomputable def cl_a174_0 : List (Nat × e2_S) := [(9, e2_cutL (al_a174_0.set 6 (13, 9, 2147483656)) 1 (E_a174_0.take 1) h_a174_0)]
set_option maxRecDepth 1000000 in
theorem ck_a174_0 : e2_runM (e2_cal S_a174 I_a174 4000 1) (e2_fin rs_a174) e2x_93 (e2_bpL cl_a174_0) (e2_cutA cl_a174_0) 4000 (e2_seek e2x_93 9) al_a174_0 [] E_a174_0 h_a174_0 = true := by decide +kernel
set_option maxRecDepth 1000000 in
theorem ci_a174_0 : e2_idl 1 (al_a174_0.set 6 (9, 0, 0)) = true := by decide +kernel
set_option maxRecDepth 1000000 in
theorem cj_a174_0 : e2_idh 1 8 h_a174_0 = true := by decide +kernel
theorem cs_a174 (hen : en_ok) (l : Launch) : e2_smOk l 2 s_a174 := by
  refine e2_conG (H := 0) (n := 1) (C := evd_93) (S := S_a174) (I := I_a174) (fuel := 4000) hen ei_93 e2_fz (e2_fa ein_159 e2_fz) (by decide) co_a174 fun M d _ hC hcall p e R s m args below meth c Q D cA A ads r0 ha hl0 => ?_
  have L_0 : e2_gdM M p l e R s m args below meth c Q D cA A ads r0 9 al_a174_0 [] E_a174_0 h_a174_0 := by
    refine e2_indL (u := 1) (j := 6) (lo := 2147483648) (hi := 2147483656) (b := 1) (dd := 0) hl0 (by decide) rfl rfl (Or.inr ⟨rfl, rfl⟩) rfl ci_a174_0 cj_a174_0 ?_
    intro r_0 k_0 hk_0 hp_0 hs_0 hn_0
    have hl_0 : r_0.length ≤ 2 := hs_0.len rfl
    have ha_0 := ha.ext hp_0
    exact e2_fromM hen ha_0 hcall (e2_cutA_ok (e2_fa (fun al st E h hc => hn_0 al st E h hc) e2_fz)) (hC []) (X := e2x_93) ex2_93 9 ck_a174_0
  have EN_0 := e2_entL (u := 1) (j := 6) (lo := 2147483648) (hi := 2147483656) hl0 rfl rfl rfl ci_a174_0 cj_a174_0 L_0
  exact e2_from hen ha hcall (e2_cutA_ok (e2_fa (fun al st E h hc => EN_0 al st E h hc) e2_fz)) (hC []) (X := e2x_93) ex2_93 0 ck_a174_e
/-! a175 X5_settle -/
def as_a175 : List ev_V := [(2, 65, 0), (11, 2147483648, 2147483667)]
def E_a175 : e2_E := [(2147483648, 2147583648, 0, 0)]
def an606 : e2_Q5 := (an258, an60)
def an607 : e2_Q6 := (an534, an606)
def an608 : e2_Q2 := (an583, an583)
def an609 : e2_Q3 := (an608, an83)
def an610 : e2_Q4 := (an609, an91)
def an611 : e2_Q5 := (an521, an610)
def an612 : e2_Q6 := (an611, an544)
def an613 : e2_Q7 := (an607, an612)
def an614 : e2_Q3 := (an608, an147)
def an615 : e2_Q4 := (an614, an155)
def an616 : e2_Q5 := (an525, an615)
def an617 : e2_Q2 := (an583, an297)
def an618 : e2_Q3 := (an617, an163)
def an619 : e2_Q4 := (an618, an171)
def an620 : e2_Q5 := (an619, an187)
def an621 : e2_Q6 := (an616, an620)
def an622 : e2_Q7 := (an621, an603)
def an623 : e2_Q8 := (an613, an622)
noncomputable def f_a175 : ev_H := (an623 : e2_Q8)
noncomputable def q_a175_0 : ev_H := (an623 : e2_Q8)
noncomputable def rs_a175 : e2_Rs := [((9, 0, 0), q_a175_0)]
noncomputable def s_a175 : e2_Sm := (91, as_a175, E_a175, f_a175, rs_a175)
noncomputable def S_a175 : List e2_Sm := [s_a174]
noncomputable def I_a175 : List e2_In := [(90, 5, e2x_90), (92, 4, e2x_92), (121, 5, e2x_121), (159, 2, e2x_159)]
set_option maxRecDepth 1000000 in
theorem co_a175 : e2_okSB E_a175.length as_a175 f_a175 rs_a175 = true := by decide +kernel
def al_a175_0 : List ev_V := [(2, 65, 0), (11, 2147483648, 2147483667), (11, 2147483648, 2147483903), (11, 0, 4294967295), (1, 1, 4294967296)]
def E_a175_0 : e2_E := [(2147483648, 2147583648, 0, 0), (2147483648, 2147483656, 1, 0)]
noncomputable def h_a175_0 : ev_H := (an623 : e2_Q8)
def al_a175_1 : List ev_V := [(2, 65, 0), (11, 2147483648, 2147483667), (11, 2147483648, 2147483903), (11, 0, 4294967295), (1, 1, 4294967296)]
def E_a175_1 : e2_E := [(2147483648, 2147583648, 0, 0), (2147483648, 2147483656, 1, 0)]
noncomputable def h_a175_1 : ev_H := (an623 : e2_Q8)
noncomputable def cl_a175_e : List (Nat × e2_S) := [(40, e2_cutL (al_a175_1.set 4 (11, 2147483648, 2147483656)) 1 (E_a175_1.take 1) h_a175_1)]
set_option maxRecDepth 1000000 in
theorem ck_a175_e : e2_run (e2_cal S_a175 I_a175 4000 2) (e2_fin rs_a175) e2x_91 (e2_bpL cl_a175_e) (e2_cutA cl_a175_e) 4000 (e2_seek e2x_91 0) (e2_al 5 as_a175) [] E_a175 f_a175 = true := by decide +kernel
noncomputable def cl_a175_0 : List (Nat × e2_S) := [(123, e2_cutL (al_a175_0.set 4 (13, 9, 2147483656)) 1 (E_a175_0.take 1) h_a175_0)]
set_option maxRecDepth 1000000 in
theorem ck_a175_0 : e2_runM (e2_cal S_a175 I_a175 4000 2) (e2_fin rs_a175) e2x_91 (e2_bpL cl_a175_0) (e2_cutA cl_a175_0) 4000 (e2_seek e2x_91 123) al_a175_0 [] E_a175_0 h_a175_0 = true := by decide +kernel
set_option maxRecDepth 1000000 in
theorem ci_a175_0 : e2_idl 1 (al_a175_0.set 4 (9, 0, 0)) = true := by decide +kernel
set_option maxRecDepth 1000000 in
theorem cj_a175_0 : e2_idh 1 8 h_a175_0 = true := by decide +kernel
noncomputable def cl_a175_1 : List (Nat × e2_S) := [(123, e2_cutL (al_a175_0.set 4 (11, 2147483648, 2147483656)) 1 (E_a175_0.take 1) h_a175_0),
  (40, e2_cutL (al_a175_1.set 4 (13, 9, 2147483656)) 1 (E_a175_1.take 1) h_a175_1)]
set_option maxRecDepth 1000000 in
theorem ck_a175_1 : e2_runM (e2_cal S_a175 I_a175 4000 2) (e2_fin rs_a175) e2x_91 (e2_bpL cl_a175_1) (e2_cutA cl_a175_1) 4000 (e2_seek e2x_91 40) al_a175_1 [] E_a175_1 h_a175_1 = true := by decide +kernel
set_option maxRecDepth 1000000 in
theorem ci_a175_1 : e2_idl 1 (al_a175_1.set 4 (9, 0, 0)) = true := by decide +kernel
set_option maxRecDepth 1000000 in
theorem cj_a175_1 : e2_idh 1 8 h_a175_1 = true := by decide +kernel
theorem cs_a175 (hen : en_ok) (l : Launch) : e2_smOk l 5 s_a175 := by
  refine e2_conG (H := 2) (n := 2) (C := evd_91) (S := S_a175) (I := I_a175) (fuel := 4000) hen ei_91 (e2_fa (cs_a174 hen l) e2_fz) (e2_fa ein_90 (e2_fa ein_92 (e2_fa ein_121 (e2_fa ein_159 e2_fz)))) (by decide) co_a175 fun M d _ hC hcall p e R s m args below meth c Q D cA A ads r0 ha hl0 => ?_
  have L_0 : e2_gdM M p l e R s m args below meth c Q D cA A ads r0 123 al_a175_0 [] E_a175_0 h_a175_0 := by
    refine e2_indL (u := 1) (j := 4) (lo := 2147483648) (hi := 2147483656) (b := 1) (dd := 0) hl0 (by decide) rfl rfl (Or.inr ⟨rfl, rfl⟩) rfl ci_a175_0 cj_a175_0 ?_
    intro r_0 k_0 hk_0 hp_0 hs_0 hn_0
    have hl_0 : r_0.length ≤ 2 := hs_0.len rfl
    have ha_0 := ha.ext hp_0
    exact e2_fromM hen ha_0 hcall (e2_cutA_ok (e2_fa (fun al st E h hc => hn_0 al st E h hc) e2_fz)) (hC [56, 58, 81]) (X := e2x_91) ex2_91 123 ck_a175_0
  have EN_0 := e2_entL (u := 1) (j := 4) (lo := 2147483648) (hi := 2147483656) hl0 rfl rfl rfl ci_a175_0 cj_a175_0 L_0
  have L_1 : e2_gdM M p l e R s m args below meth c Q D cA A ads r0 40 al_a175_1 [] E_a175_1 h_a175_1 := by
    refine e2_indL (u := 1) (j := 4) (lo := 2147483648) (hi := 2147483656) (b := 1) (dd := 0) hl0 (by decide) rfl rfl (Or.inr ⟨rfl, rfl⟩) rfl ci_a175_1 cj_a175_1 ?_
    intro r_1 k_1 hk_1 hp_1 hs_1 hn_1
    have hl_1 : r_1.length ≤ 2 := hs_1.len rfl
    have ha_1 := ha.ext hp_1
    exact e2_fromM hen ha_1 hcall (e2_cutA_ok (e2_fa (fun al st E h hc => (EN_0 al st E h hc).ext hp_1) (e2_fa (fun al st E h hc => hn_1 al st E h hc) e2_fz))) (hC [56, 58, 81]) (X := e2x_91) ex2_91 40 ck_a175_1
  have EN_1 := e2_entL (u := 1) (j := 4) (lo := 2147483648) (hi := 2147483656) hl0 rfl rfl rfl ci_a175_1 cj_a175_1 L_1
  exact e2_from hen ha hcall (e2_cutA_ok (e2_fa (fun al st E h hc => EN_1 al st E h hc) e2_fz)) (hC [56, 58, 81]) (X := e2x_91) ex2_91 0 ck_a175_e
/-! a176 X5_read -/
def as_a176 : List ev_V := [(2, 65, 0), (11, 0, 4294967295)]
def E_a176 : e2_E := [(2147483648, 2147583648, 0, 0)]
noncomputable def f_a176 : ev_H := (an623 : e2_Q8)
noncomputable def q_a176_0 : ev_H := (an623 : e2_Q8)
noncomputable def rs_a176 : e2_Rs := [((11, 0, 4294967295), q_a176_0)]
noncomputable def s_a176 : e2_Sm := (88, as_a176, E_a176, f_a176, rs_a176)
noncomputable def S_a176 : List e2_Sm := [s_a175]
noncomputable def I_a176 : List e2_In := [(90, 5, e2x_90)]
set_option maxRecDepth 1000000 in
theorem co_a176 : e2_okSB E_a176.length as_a176 f_a176 rs_a176 = true := by decide +kernel
def al_a176_0 : List ev_V := [(2, 65, 0), (11, 0, 4294967295), (11, 0, 4294967295), (1, 1, 4294967296)]
def E_a176_0 : e2_E := [(2147483648, 2147583648, 0, 0), (2147483647, 2147483667, 1, 0)]
noncomputable def h_a176_0 : ev_H := (an623 : e2_Q8)
noncomputable def cl_a176_e : List (Nat × e2_S) := [(38, e2_cutL (al_a176_0.set 3 (11, 2147483647, 2147483667)) 1 (E_a176_0.take 1) h_a176_0)]
set_option maxRecDepth 1000000 in
theorem ck_a176_e : e2_run (e2_cal S_a176 I_a176 4000 1) (e2_fin rs_a176) e2x_88 (e2_bpL cl_a176_e) (e2_cutA cl_a176_e) 4000 (e2_seek e2x_88 0) (e2_al 4 as_a176) [] E_a176 f_a176 = true := by decide +kernel
noncomputable def cl_a176_0 : List (Nat × e2_S) := [(38, e2_cutL (al_a176_0.set 3 (12, 9, 2147483647)) 1 (E_a176_0.take 1) h_a176_0)]
set_option maxRecDepth 1000000 in
theorem ck_a176_0 : e2_runM (e2_cal S_a176 I_a176 4000 1) (e2_fin rs_a176) e2x_88 (e2_bpL cl_a176_0) (e2_cutA cl_a176_0) 4000 (e2_seek e2x_88 38) al_a176_0 [] E_a176_0 h_a176_0 = true := by decide +kernel
set_option maxRecDepth 1000000 in
theorem ci_a176_0 : e2_idl 1 (al_a176_0.set 3 (9, 0, 0)) = true := by decide +kernel
set_option maxRecDepth 1000000 in
theorem cj_a176_0 : e2_idh 1 8 h_a176_0 = true := by decide +kernel
theorem cs_a176 (hen : en_ok) (l : Launch) : e2_smOk l 7 s_a176 := by
  refine e2_conG (H := 5) (n := 1) (C := evd_88) (S := S_a176) (I := I_a176) (fuel := 4000) hen ei_88 (e2_fa (cs_a175 hen l) e2_fz) (e2_fa ein_90 e2_fz) (by decide) co_a176 fun M d _ hC hcall p e R s m args below meth c Q D cA A ads r0 ha hl0 => ?_
  have L_0 : e2_gdM M p l e R s m args below meth c Q D cA A ads r0 38 al_a176_0 [] E_a176_0 h_a176_0 := by
    refine e2_indD (u := 1) (j := 3) (lo := 2147483647) (hi := 2147483667) hl0 (by decide) rfl rfl rfl ci_a176_0 cj_a176_0 ?_
    intro r_0 k_0 hk_0 hp_0 hs_0 hn_0
    have hl_0 : r_0.length ≤ 2 := hs_0.len rfl
    have ha_0 := ha.ext hp_0
    exact e2_fromM hen ha_0 hcall (e2_cutA_ok (e2_fa (fun al st E h hc => hn_0 al st E h hc) e2_fz)) (hC []) (X := e2x_88) ex2_88 38 ck_a176_0
  have EN_0 := e2_entL (u := 1) (j := 3) (lo := 2147483647) (hi := 2147483667) hl0 rfl rfl rfl ci_a176_0 cj_a176_0 L_0
  exact e2_from hen ha hcall (e2_cutA_ok (e2_fa (fun al st E h hc => EN_0 al st E h hc) e2_fz)) (hC []) (X := e2x_88) ex2_88 0 ck_a176_e
/-! a177 X5_takesAway -/
def as_a177 : List ev_V := [(2, 65, 0)]
def E_a177 : e2_E := [(2147483648, 2147583648, 0, 0)]
def an624 : e2_Q2 := (an583, an16)
def an625 : e2_Q3 := (an624, an20)
def an626 : e2_Q4 := (an625, an28)
def an627 : e2_Q5 := (an14, an626)
def an628 : e2_Q5 := (an45, an262)
def an629 : e2_Q6 := (an627, an628)
def an630 : e2_Q7 := (an629, an343)
def an631 : e2_Q6 := (an526, an188)
def an632 : e2_Q7 := (an631, an347)
def an633 : e2_Q8 := (an630, an632)
noncomputable def f_a177 : ev_H := (an633 : e2_Q8)
noncomputable def q_a177_0 : ev_H := (an633 : e2_Q8)
noncomputable def rs_a177 : e2_Rs := [((11, 2147483648, 2147483649), q_a177_0)]
noncomputable def s_a177 : e2_Sm := (96, as_a177, E_a177, f_a177, rs_a177)
noncomputable def S_a177 : List e2_Sm := []
noncomputable def I_a177 : List e2_In := []
set_option maxRecDepth 1000000 in
theorem co_a177 : e2_okSB E_a177.length as_a177 f_a177 rs_a177 = true := by decide +kernel
def al_a177_0 : List ev_V := [(2, 65, 0), (1, 1, 4294967296)]
def E_a177_0 : e2_E := [(2147483648, 2147583648, 0, 0), (2147483648, 2147483668, 1, 0)]
noncomputable def h_a177_0 : ev_H := (an633 : e2_Q8)
noncomputable def cl_a177_e : List (Nat × e2_S) := [(2, e2_cutL (al_a177_0.set 1 (11, 2147483648, 2147483668)) 1 (E_a177_0.take 1) h_a177_0)]
set_option maxRecDepth 1000000 in
theorem ck_a177_e : e2_run (e2_cal S_a177 I_a177 4000 0) (e2_fin rs_a177) e2x_96 (e2_bpL cl_a177_e) (e2_cutA cl_a177_e) 4000 (e2_seek e2x_96 0) (e2_al 2 as_a177) [] E_a177 f_a177 = true := by decide +kernel
noncomputable def cl_a177_0 : List (Nat × e2_S) := [(2, e2_cutL (al_a177_0.set 1 (13, 9, 2147483668)) 1 (E_a177_0.take 1) h_a177_0)]
set_option maxRecDepth 1000000 in
theorem ck_a177_0 : e2_runM (e2_cal S_a177 I_a177 4000 0) (e2_fin rs_a177) e2x_96 (e2_bpL cl_a177_0) (e2_cutA cl_a177_0) 4000 (e2_seek e2x_96 2) al_a177_0 [] E_a177_0 h_a177_0 = true := by decide +kernel
set_option maxRecDepth 1000000 in
theorem ci_a177_0 : e2_idl 1 (al_a177_0.set 1 (9, 0, 0)) = true := by decide +kernel
set_option maxRecDepth 1000000 in
theorem cj_a177_0 : e2_idh 1 8 h_a177_0 = true := by decide +kernel
theorem cs_a177 (hen : en_ok) (l : Launch) : e2_smOk l 1 s_a177 := by
  refine e2_conG (H := 0) (n := 0) (C := evd_96) (S := S_a177) (I := I_a177) (fuel := 4000) hen ei_96 e2_fz e2_fz (by decide) co_a177 fun M d _ hC hcall p e R s m args below meth c Q D cA A ads r0 ha hl0 => ?_
  have L_0 : e2_gdM M p l e R s m args below meth c Q D cA A ads r0 2 al_a177_0 [] E_a177_0 h_a177_0 := by
    refine e2_indL (u := 1) (j := 1) (lo := 2147483648) (hi := 2147483668) (b := 1) (dd := 0) hl0 (by decide) rfl rfl (Or.inr ⟨rfl, rfl⟩) rfl ci_a177_0 cj_a177_0 ?_
    intro r_0 k_0 hk_0 hp_0 hs_0 hn_0
    have hl_0 : r_0.length ≤ 2 := hs_0.len rfl
    have ha_0 := ha.ext hp_0
    exact e2_fromM hen ha_0 hcall (e2_cutA_ok (e2_fa (fun al st E h hc => hn_0 al st E h hc) e2_fz)) (hC []) (X := e2x_96) ex2_96 2 ck_a177_0
  have EN_0 := e2_entL (u := 1) (j := 1) (lo := 2147483648) (hi := 2147483668) hl0 rfl rfl rfl ci_a177_0 cj_a177_0 L_0
  exact e2_from hen ha hcall (e2_cutA_ok (e2_fa (fun al st E h hc => EN_0 al st E h hc) e2_fz)) (hC []) (X := e2x_96) ex2_96 0 ck_a177_e
/-! a178 X4_harms -/
def as_a178 : List ev_V := [(2, 59, 0), (11, 0, 4294967295)]
def E_a178 : e2_E := [(2147483648, 2147583648, 0, 0)]
def an634 : e2_Q2 := (an583, an530)
def an635 : e2_Q3 := (an634, an20)
def an636 : e2_Q4 := (an635, an28)
def an637 : e2_Q5 := (an14, an636)
def an638 : e2_Q6 := (an637, an263)
def an639 : e2_Q4 := (an520, an269)
def an640 : e2_Q4 := (an609, an272)
def an641 : e2_Q5 := (an639, an640)
def an642 : e2_Q4 := (an542, an279)
def an643 : e2_Q5 := (an642, an123)
def an644 : e2_Q6 := (an641, an643)
def an645 : e2_Q7 := (an638, an644)
def an646 : e2_Q4 := (an614, an294)
def an647 : e2_Q5 := (an330, an646)
def an648 : e2_Q4 := (an618, an302)
def an649 : e2_Q5 := (an648, an187)
def an650 : e2_Q6 := (an647, an649)
def an651 : e2_Q4 := (an313, an576)
def an652 : e2_Q5 := (an311, an651)
def an653 : e2_Q6 := (an652, an337)
def an654 : e2_Q7 := (an650, an653)
def an655 : e2_Q8 := (an645, an654)
noncomputable def f_a178 : ev_H := (an655 : e2_Q8)
noncomputable def q_a178_0 : ev_H := (an655 : e2_Q8)
noncomputable def rs_a178 : e2_Rs := [((11, 2147483648, 2147483649), q_a178_0)]
noncomputable def s_a178 : e2_Sm := (67, as_a178, E_a178, f_a178, rs_a178)
noncomputable def S_a178 : List e2_Sm := [s_a4, s_a176, s_a177]
noncomputable def I_a178 : List e2_In := []
set_option maxRecDepth 1000000 in
theorem ck_a178 : e2_run (e2_cal S_a178 I_a178 4000 0) (e2_fin rs_a178) e2x_67 (fun _ => false) (fun _ _ _ _ _ => false) 4000 (e2_seek e2x_67 0) (e2_al 2 as_a178) [] E_a178 f_a178 = true := by decide +kernel
set_option maxRecDepth 1000000 in
theorem co_a178 : e2_okSB E_a178.length as_a178 f_a178 rs_a178 = true := by decide +kernel
theorem cs_a178 (hen : en_ok) (l : Launch) (hh : e2_hand_a l) : e2_smOk l 61 s_a178 := e2_con0 (H := 60) (n := 0) (C := evd_67) (S := S_a178) (I := I_a178) (fuel := 4000) [] hen ei_67 (e2_fa (hh _ hm_a4) (e2_fa ((cs_a176 hen l).mono (by decide)) (e2_fa ((cs_a177 hen l).mono (by decide)) e2_fz))) e2_fz (by decide) co_a178 ex2_67 ck_a178
/-! a179 X5_gainOf -/
def as_a179 : List ev_V := [(2, 65, 0), (11, 0, 4294967295)]
def E_a179 : e2_E := [(2147483648, 2147583648, 0, 0)]
def an656 : e2_Q6 := (an346, an559)
def an657 : e2_Q7 := (an631, an656)
def an658 : e2_Q8 := (an630, an657)
noncomputable def f_a179 : ev_H := (an658 : e2_Q8)
noncomputable def q_a179_0 : ev_H := (an658 : e2_Q8)
noncomputable def rs_a179 : e2_Rs := [((11, 0, 4294967295), q_a179_0)]
noncomputable def s_a179 : e2_Sm := (95, as_a179, E_a179, f_a179, rs_a179)
noncomputable def S_a179 : List e2_Sm := []
noncomputable def I_a179 : List e2_In := []
set_option maxRecDepth 1000000 in
theorem co_a179 : e2_okSB E_a179.length as_a179 f_a179 rs_a179 = true := by decide +kernel
def al_a179_0 : List ev_V := [(2, 65, 0), (11, 0, 4294967295), (11, 0, 4294967295), (1, 1, 4294967296)]
def E_a179_0 : e2_E := [(2147483648, 2147583648, 0, 0), (2147483648, 2147483668, 1, 0)]
noncomputable def h_a179_0 : ev_H := (an658 : e2_Q8)
noncomputable def cl_a179_e : List (Nat × e2_S) := [(4, e2_cutL (al_a179_0.set 3 (11, 2147483648, 2147483668)) 1 (E_a179_0.take 1) h_a179_0)]
set_option maxRecDepth 1000000 in
theorem ck_a179_e : e2_run (e2_cal S_a179 I_a179 4000 0) (e2_fin rs_a179) e2x_95 (e2_bpL cl_a179_e) (e2_cutA cl_a179_e) 4000 (e2_seek e2x_95 0) (e2_al 4 as_a179) [] E_a179 f_a179 = true := by decide +kernel
noncomputable def cl_a179_0 : List (Nat × e2_S) := [(4, e2_cutL (al_a179_0.set 3 (13, 9, 2147483668)) 1 (E_a179_0.take 1) h_a179_0)]
set_option maxRecDepth 1000000 in
theorem ck_a179_0 : e2_runM (e2_cal S_a179 I_a179 4000 0) (e2_fin rs_a179) e2x_95 (e2_bpL cl_a179_0) (e2_cutA cl_a179_0) 4000 (e2_seek e2x_95 4) al_a179_0 [] E_a179_0 h_a179_0 = true := by decide +kernel
set_option maxRecDepth 1000000 in
theorem ci_a179_0 : e2_idl 1 (al_a179_0.set 3 (9, 0, 0)) = true := by decide +kernel
set_option maxRecDepth 1000000 in
theorem cj_a179_0 : e2_idh 1 8 h_a179_0 = true := by decide +kernel
theorem cs_a179 (hen : en_ok) (l : Launch) : e2_smOk l 1 s_a179 := by
  refine e2_conG (H := 0) (n := 0) (C := evd_95) (S := S_a179) (I := I_a179) (fuel := 4000) hen ei_95 e2_fz e2_fz (by decide) co_a179 fun M d _ hC hcall p e R s m args below meth c Q D cA A ads r0 ha hl0 => ?_
  have L_0 : e2_gdM M p l e R s m args below meth c Q D cA A ads r0 4 al_a179_0 [] E_a179_0 h_a179_0 := by
    refine e2_indL (u := 1) (j := 3) (lo := 2147483648) (hi := 2147483668) (b := 1) (dd := 0) hl0 (by decide) rfl rfl (Or.inr ⟨rfl, rfl⟩) rfl ci_a179_0 cj_a179_0 ?_
    intro r_0 k_0 hk_0 hp_0 hs_0 hn_0
    have hl_0 : r_0.length ≤ 2 := hs_0.len rfl
    have ha_0 := ha.ext hp_0
    exact e2_fromM hen ha_0 hcall (e2_cutA_ok (e2_fa (fun al st E h hc => hn_0 al st E h hc) e2_fz)) (hC []) (X := e2x_95) ex2_95 4 ck_a179_0
  have EN_0 := e2_entL (u := 1) (j := 3) (lo := 2147483648) (hi := 2147483668) hl0 rfl rfl rfl ci_a179_0 cj_a179_0 L_0
  exact e2_from hen ha hcall (e2_cutA_ok (e2_fa (fun al st E h hc => EN_0 al st E h hc) e2_fz)) (hC []) (X := e2x_95) ex2_95 0 ck_a179_e
/-! a180 X4_gainBy -/
def as_a180 : List ev_V := [(2, 59, 0), (11, 0, 4294967295), (11, 2147483648, 2147483651)]
def E_a180 : e2_E := [(2147483648, 2147583648, 0, 0)]
def an659 : e2_Q2 := (an555, an300)
def an660 : e2_Q3 := (an659, an226)
def an661 : e2_Q4 := (an660, an234)
def an662 : e2_Q5 := (an661, an336)
def an663 : e2_Q6 := (an652, an662)
def an664 : e2_Q7 := (an650, an663)
def an665 : e2_Q8 := (an645, an664)
noncomputable def f_a180 : ev_H := (an665 : e2_Q8)
noncomputable def q_a180_0 : ev_H := (an665 : e2_Q8)
noncomputable def rs_a180 : e2_Rs := [((11, 0, 4294967295), q_a180_0)]
noncomputable def s_a180 : e2_Sm := (68, as_a180, E_a180, f_a180, rs_a180)
noncomputable def S_a180 : List e2_Sm := [s_a4, s_a176, s_a179]
noncomputable def I_a180 : List e2_In := []
set_option maxRecDepth 1000000 in
theorem ck_a180 : e2_run (e2_cal S_a180 I_a180 4000 0) (e2_fin rs_a180) e2x_68 (fun _ => false) (fun _ _ _ _ _ => false) 4000 (e2_seek e2x_68 0) (e2_al 3 as_a180) [] E_a180 f_a180 = true := by decide +kernel
set_option maxRecDepth 1000000 in
theorem co_a180 : e2_okSB E_a180.length as_a180 f_a180 rs_a180 = true := by decide +kernel
theorem cs_a180 (hen : en_ok) (l : Launch) (hh : e2_hand_a l) : e2_smOk l 61 s_a180 := e2_con0 (H := 60) (n := 0) (C := evd_68) (S := S_a180) (I := I_a180) (fuel := 4000) [] hen ei_68 (e2_fa (hh _ hm_a4) (e2_fa ((cs_a176 hen l).mono (by decide)) (e2_fa ((cs_a179 hen l).mono (by decide)) e2_fz))) e2_fz (by decide) co_a180 ex2_68 ck_a180
/-! a181 X4_wishForOneReading -/
def as_a181 : List ev_V := [(2, 59, 0)]
def E_a181 : e2_E := [(2147483648, 2147583648, 0, 0)]
def an666 : e2_Q6 := (an534, an263)
def an667 : e2_Q7 := (an666, an644)
def ac170 : ev_C := (54, [(0, 20, 0), (11, 0, 4294967295)])
def an668 : e2_Q1 := (ac170, ac3)
def an669 : e2_Q2 := (an668, an184)
def an670 : e2_Q3 := (an182, an669)
def an671 : e2_Q4 := (an179, an670)
def an672 : e2_Q5 := (an648, an671)
def an673 : e2_Q6 := (an647, an672)
def an674 : e2_Q7 := (an673, an653)
def an675 : e2_Q8 := (an667, an674)
noncomputable def f_a181 : ev_H := (an675 : e2_Q8)
noncomputable def q_a181_0 : ev_H := (an675 : e2_Q8)
noncomputable def rs_a181 : e2_Rs := [((11, 2147483648, 2147483649), q_a181_0)]
noncomputable def s_a181 : e2_Sm := (70, as_a181, E_a181, f_a181, rs_a181)
noncomputable def S_a181 : List e2_Sm := [s_a4, s_a176]
noncomputable def I_a181 : List e2_In := []
set_option maxRecDepth 1000000 in
theorem co_a181 : e2_okSB E_a181.length as_a181 f_a181 rs_a181 = true := by decide +kernel
def al_a181_0 : List ev_V := [(2, 59, 0), (1, 1, 4294967296)]
def E_a181_0 : e2_E := [(2147483648, 2147583648, 0, 0), (2147483648, 2147483668, 1, 0)]
noncomputable def h_a181_0 : ev_H := (an675 : e2_Q8)
noncomputable def cl_a181_e : List (Nat × e2_S) := [(44, e2_cutL (al_a181_0.set 1 (11, 2147483648, 2147483668)) 1 (E_a181_0.take 1) h_a181_0)]
set_option maxRecDepth 1000000 in
theorem ck_a181_e : e2_run (e2_cal S_a181 I_a181 4000 0) (e2_fin rs_a181) e2x_70 (e2_bpL cl_a181_e) (e2_cutA cl_a181_e) 4000 (e2_seek e2x_70 0) (e2_al 2 as_a181) [] E_a181 f_a181 = true := by decide +kernel
noncomputable def cl_a181_0 : List (Nat × e2_S) := [(44, e2_cutL (al_a181_0.set 1 (13, 9, 2147483668)) 1 (E_a181_0.take 1) h_a181_0)]
set_option maxRecDepth 1000000 in
theorem ck_a181_0 : e2_runM (e2_cal S_a181 I_a181 4000 0) (e2_fin rs_a181) e2x_70 (e2_bpL cl_a181_0) (e2_cutA cl_a181_0) 4000 (e2_seek e2x_70 44) al_a181_0 [] E_a181_0 h_a181_0 = true := by decide +kernel
set_option maxRecDepth 1000000 in
theorem ci_a181_0 : e2_idl 1 (al_a181_0.set 1 (9, 0, 0)) = true := by decide +kernel
set_option maxRecDepth 1000000 in
theorem cj_a181_0 : e2_idh 1 8 h_a181_0 = true := by decide +kernel
theorem cs_a181 (hen : en_ok) (l : Launch) (hh : e2_hand_a l) : e2_smOk l 61 s_a181 := by
  refine e2_conG (H := 60) (n := 0) (C := evd_70) (S := S_a181) (I := I_a181) (fuel := 4000) hen ei_70 (e2_fa (hh _ hm_a4) (e2_fa ((cs_a176 hen l).mono (by decide)) e2_fz)) e2_fz (by decide) co_a181 fun M d _ hC hcall p e R s m args below meth c Q D cA A ads r0 ha hl0 => ?_
  have L_0 : e2_gdM M p l e R s m args below meth c Q D cA A ads r0 44 al_a181_0 [] E_a181_0 h_a181_0 := by
    refine e2_indL (u := 1) (j := 1) (lo := 2147483648) (hi := 2147483668) (b := 1) (dd := 0) hl0 (by decide) rfl rfl (Or.inr ⟨rfl, rfl⟩) rfl ci_a181_0 cj_a181_0 ?_
    intro r_0 k_0 hk_0 hp_0 hs_0 hn_0
    have hl_0 : r_0.length ≤ 2 := hs_0.len rfl
    have ha_0 := ha.ext hp_0
    exact e2_fromM hen ha_0 hcall (e2_cutA_ok (e2_fa (fun al st E h hc => hn_0 al st E h hc) e2_fz)) (hC []) (X := e2x_70) ex2_70 44 ck_a181_0
  have EN_0 := e2_entL (u := 1) (j := 1) (lo := 2147483648) (hi := 2147483668) hl0 rfl rfl rfl ci_a181_0 cj_a181_0 L_0
  exact e2_from hen ha hcall (e2_cutA_ok (e2_fa (fun al st E h hc => EN_0 al st E h hc) e2_fz)) (hC []) (X := e2x_70) ex2_70 0 ck_a181_e
/-! a182 X4_hasWantedSigns -/
def as_a182 : List ev_V := [(2, 59, 0)]
def E_a182 : e2_E := [(2147483648, 2147583648, 0, 0)]
def an676 : e2_Q6 := (an30, an628)
def an677 : e2_Q7 := (an676, an343)
def an678 : e2_Q5 := (an596, an156)
def an679 : e2_Q5 := (an172, an671)
def an680 : e2_Q6 := (an678, an679)
def an681 : e2_Q4 := (an211, an576)
def an682 : e2_Q5 := (an345, an681)
def an683 : e2_Q6 := (an682, an251)
def an684 : e2_Q7 := (an680, an683)
def an685 : e2_Q8 := (an677, an684)
noncomputable def f_a182 : ev_H := (an685 : e2_Q8)
noncomputable def q_a182_0 : ev_H := (an685 : e2_Q8)
noncomputable def rs_a182 : e2_Rs := [((11, 2147483648, 2147483649), q_a182_0)]
noncomputable def s_a182 : e2_Sm := (74, as_a182, E_a182, f_a182, rs_a182)
noncomputable def S_a182 : List e2_Sm := []
noncomputable def I_a182 : List e2_In := []
set_option maxRecDepth 1000000 in
theorem co_a182 : e2_okSB E_a182.length as_a182 f_a182 rs_a182 = true := by decide +kernel
def al_a182_0 : List ev_V := [(2, 59, 0), (1, 1, 4294967296)]
def E_a182_0 : e2_E := [(2147483648, 2147583648, 0, 0), (2147483648, 2147483668, 1, 0)]
noncomputable def h_a182_0 : ev_H := (an685 : e2_Q8)
noncomputable def cl_a182_e : List (Nat × e2_S) := [(18, e2_cutL (al_a182_0.set 1 (11, 2147483648, 2147483668)) 1 (E_a182_0.take 1) h_a182_0)]
set_option maxRecDepth 1000000 in
theorem ck_a182_e : e2_run (e2_cal S_a182 I_a182 4000 0) (e2_fin rs_a182) e2x_74 (e2_bpL cl_a182_e) (e2_cutA cl_a182_e) 4000 (e2_seek e2x_74 0) (e2_al 2 as_a182) [] E_a182 f_a182 = true := by decide +kernel
noncomputable def cl_a182_0 : List (Nat × e2_S) := [(18, e2_cutL (al_a182_0.set 1 (13, 9, 2147483668)) 1 (E_a182_0.take 1) h_a182_0)]
set_option maxRecDepth 1000000 in
theorem ck_a182_0 : e2_runM (e2_cal S_a182 I_a182 4000 0) (e2_fin rs_a182) e2x_74 (e2_bpL cl_a182_0) (e2_cutA cl_a182_0) 4000 (e2_seek e2x_74 18) al_a182_0 [] E_a182_0 h_a182_0 = true := by decide +kernel
set_option maxRecDepth 1000000 in
theorem ci_a182_0 : e2_idl 1 (al_a182_0.set 1 (9, 0, 0)) = true := by decide +kernel
set_option maxRecDepth 1000000 in
theorem cj_a182_0 : e2_idh 1 8 h_a182_0 = true := by decide +kernel
theorem cs_a182 (hen : en_ok) (l : Launch) : e2_smOk l 1 s_a182 := by
  refine e2_conG (H := 0) (n := 0) (C := evd_74) (S := S_a182) (I := I_a182) (fuel := 4000) hen ei_74 e2_fz e2_fz (by decide) co_a182 fun M d _ hC hcall p e R s m args below meth c Q D cA A ads r0 ha hl0 => ?_
  have L_0 : e2_gdM M p l e R s m args below meth c Q D cA A ads r0 18 al_a182_0 [] E_a182_0 h_a182_0 := by
    refine e2_indL (u := 1) (j := 1) (lo := 2147483648) (hi := 2147483668) (b := 1) (dd := 0) hl0 (by decide) rfl rfl (Or.inr ⟨rfl, rfl⟩) rfl ci_a182_0 cj_a182_0 ?_
    intro r_0 k_0 hk_0 hp_0 hs_0 hn_0
    have hl_0 : r_0.length ≤ 2 := hs_0.len rfl
    have ha_0 := ha.ext hp_0
    exact e2_fromM hen ha_0 hcall (e2_cutA_ok (e2_fa (fun al st E h hc => hn_0 al st E h hc) e2_fz)) (hC []) (X := e2x_74) ex2_74 18 ck_a182_0
  have EN_0 := e2_entL (u := 1) (j := 1) (lo := 2147483648) (hi := 2147483668) hl0 rfl rfl rfl ci_a182_0 cj_a182_0 L_0
  exact e2_from hen ha hcall (e2_cutA_ok (e2_fa (fun al st E h hc => EN_0 al st E h hc) e2_fz)) (hC []) (X := e2x_74) ex2_74 0 ck_a182_e
/-! a183 X4_meetsGoal -/
def as_a183 : List ev_V := [(2, 59, 0), (11, 0, 4294967295)]
def E_a183 : e2_E := [(2147483648, 2147583648, 0, 0)]
def an686 : e2_Q7 := (an673, an663)
def an687 : e2_Q8 := (an645, an686)
noncomputable def f_a183 : ev_H := (an687 : e2_Q8)
noncomputable def q_a183_0 : ev_H := (an687 : e2_Q8)
noncomputable def rs_a183 : e2_Rs := [((11, 2147483648, 2147483649), q_a183_0)]
noncomputable def s_a183 : e2_Sm := (73, as_a183, E_a183, f_a183, rs_a183)
noncomputable def S_a183 : List e2_Sm := [s_a4, s_a176, s_a179, s_a182]
noncomputable def I_a183 : List e2_In := []
set_option maxRecDepth 1000000 in
theorem ck_a183 : e2_run (e2_cal S_a183 I_a183 4000 0) (e2_fin rs_a183) e2x_73 (fun _ => false) (fun _ _ _ _ _ => false) 4000 (e2_seek e2x_73 0) (e2_al 3 as_a183) [] E_a183 f_a183 = true := by decide +kernel
set_option maxRecDepth 1000000 in
theorem co_a183 : e2_okSB E_a183.length as_a183 f_a183 rs_a183 = true := by decide +kernel
theorem cs_a183 (hen : en_ok) (l : Launch) (hh : e2_hand_a l) : e2_smOk l 61 s_a183 := e2_con0 (H := 60) (n := 0) (C := evd_73) (S := S_a183) (I := I_a183) (fuel := 4000) [] hen ei_73 (e2_fa (hh _ hm_a4) (e2_fa ((cs_a176 hen l).mono (by decide)) (e2_fa ((cs_a179 hen l).mono (by decide)) (e2_fa ((cs_a182 hen l).mono (by decide)) e2_fz)))) e2_fz (by decide) co_a183 ex2_73 ck_a183
/-! a184 X4_changeFrom -/
def as_a184 : List ev_V := [(2, 59, 0), (11, 2147483648, 2147483668), (0, 0, 0), (11, 0, 4294967295)]
def E_a184 : e2_E := [(2147483648, 2147583648, 0, 0)]
noncomputable def f_a184 : ev_H := (an687 : e2_Q8)
noncomputable def q_a184_0 : ev_H := (an687 : e2_Q8)
noncomputable def rs_a184 : e2_Rs := [((11, 2147483648, 2147483649), q_a184_0)]
noncomputable def s_a184 : e2_Sm := (72, as_a184, E_a184, f_a184, rs_a184)
noncomputable def S_a184 : List e2_Sm := [s_a183]
noncomputable def I_a184 : List e2_In := []
set_option maxRecDepth 1000000 in
theorem ck_a184 : e2_run (e2_cal S_a184 I_a184 4000 0) (e2_fin rs_a184) e2x_72 (fun _ => false) (fun _ _ _ _ _ => false) 4000 (e2_seek e2x_72 0) (e2_al 6 as_a184) [] E_a184 f_a184 = true := by decide +kernel
set_option maxRecDepth 1000000 in
theorem co_a184 : e2_okSB E_a184.length as_a184 f_a184 rs_a184 = true := by decide +kernel
theorem cs_a184 (hen : en_ok) (l : Launch) (hh : e2_hand_a l) : e2_smOk l 62 s_a184 := e2_con0 (H := 61) (n := 0) (C := evd_72) (S := S_a184) (I := I_a184) (fuel := 4000) [] hen ei_72 (e2_fa (cs_a183 hen l hh) e2_fz) e2_fz (by decide) co_a184 ex2_72 ck_a184
/-! a185 X4_changeFrom -/
def as_a185 : List ev_V := [(2, 59, 0), (11, 2147483648, 2147483667), (0, 1, 0), (11, 0, 4294967295)]
def E_a185 : e2_E := [(2147483648, 2147583648, 0, 0)]
def an688 : e2_Q2 := (an668, an57)
def an689 : e2_Q3 := (an55, an688)
def an690 : e2_Q4 := (an261, an689)
def an691 : e2_Q5 := (an258, an690)
def an692 : e2_Q6 := (an637, an691)
def an693 : e2_Q7 := (an692, an644)
def an694 : e2_Q8 := (an693, an686)
noncomputable def f_a185 : ev_H := (an694 : e2_Q8)
noncomputable def q_a185_0 : ev_H := (an694 : e2_Q8)
noncomputable def rs_a185 : e2_Rs := [((11, 2147483648, 2147483649), q_a185_0)]
noncomputable def s_a185 : e2_Sm := (72, as_a185, E_a185, f_a185, rs_a185)
noncomputable def S_a185 : List e2_Sm := [s_a184]
noncomputable def I_a185 : List e2_In := [(64, 2, e2x_64), (159, 2, e2x_159)]
set_option maxRecDepth 1000000 in
theorem co_a185 : e2_okSB E_a185.length as_a185 f_a185 rs_a185 = true := by decide +kernel
def al_a185_0 : List ev_V := [(2, 59, 0), (11, 2147483648, 2147483667), (0, 1, 0), (11, 0, 4294967295), (1, 1, 4294967296), (9, 0, 0)]
def E_a185_0 : e2_E := [(2147483648, 2147583648, 0, 0), (2147483648, 2147483668, 1, 0)]
noncomputable def h_a185_0 : ev_H := (an694 : e2_Q8)
noncomputable def cl_a185_e : List (Nat × e2_S) := [(13, e2_cutL (al_a185_0.set 4 (11, 2147483648, 2147483668)) 1 (E_a185_0.take 1) h_a185_0)]
set_option maxRecDepth 1000000 in
theorem ck_a185_e : e2_run (e2_cal S_a185 I_a185 4000 1) (e2_fin rs_a185) e2x_72 (e2_bpL cl_a185_e) (e2_cutA cl_a185_e) 4000 (e2_seek e2x_72 0) (e2_al 6 as_a185) [] E_a185 f_a185 = true := by decide +kernel
noncomputable def cl_a185_0 : List (Nat × e2_S) := [(13, e2_cutL (al_a185_0.set 4 (13, 9, 2147483668)) 1 (E_a185_0.take 1) h_a185_0)]
set_option maxRecDepth 1000000 in
theorem ck_a185_0 : e2_runM (e2_cal S_a185 I_a185 4000 1) (e2_fin rs_a185) e2x_72 (e2_bpL cl_a185_0) (e2_cutA cl_a185_0) 4000 (e2_seek e2x_72 13) al_a185_0 [] E_a185_0 h_a185_0 = true := by decide +kernel
set_option maxRecDepth 1000000 in
theorem ci_a185_0 : e2_idl 1 (al_a185_0.set 4 (9, 0, 0)) = true := by decide +kernel
set_option maxRecDepth 1000000 in
theorem cj_a185_0 : e2_idh 1 8 h_a185_0 = true := by decide +kernel
theorem cs_a185 (hen : en_ok) (l : Launch) (hh : e2_hand_a l) : e2_smOk l 64 s_a185 := by
  refine e2_conG (H := 62) (n := 1) (C := evd_72) (S := S_a185) (I := I_a185) (fuel := 4000) hen ei_72 (e2_fa (cs_a184 hen l hh) e2_fz) (e2_fa ein_64 (e2_fa ein_159 e2_fz)) (by decide) co_a185 fun M d _ hC hcall p e R s m args below meth c Q D cA A ads r0 ha hl0 => ?_
  have L_0 : e2_gdM M p l e R s m args below meth c Q D cA A ads r0 13 al_a185_0 [] E_a185_0 h_a185_0 := by
    refine e2_indL (u := 1) (j := 4) (lo := 2147483648) (hi := 2147483668) (b := 1) (dd := 0) hl0 (by decide) rfl rfl (Or.inr ⟨rfl, rfl⟩) rfl ci_a185_0 cj_a185_0 ?_
    intro r_0 k_0 hk_0 hp_0 hs_0 hn_0
    have hl_0 : r_0.length ≤ 2 := hs_0.len rfl
    have ha_0 := ha.ext hp_0
    exact e2_fromM hen ha_0 hcall (e2_cutA_ok (e2_fa (fun al st E h hc => hn_0 al st E h hc) e2_fz)) (hC []) (X := e2x_72) ex2_72 13 ck_a185_0
  have EN_0 := e2_entL (u := 1) (j := 4) (lo := 2147483648) (hi := 2147483668) hl0 rfl rfl rfl ci_a185_0 cj_a185_0 L_0
  exact e2_from hen ha hcall (e2_cutA_ok (e2_fa (fun al st E h hc => EN_0 al st E h hc) e2_fz)) (hC []) (X := e2x_72) ex2_72 0 ck_a185_e
/-! a186 X4_changeFrom -/
def as_a186 : List ev_V := [(2, 59, 0), (11, 2147483648, 2147483667), (0, 2, 0), (11, 0, 4294967295)]
def E_a186 : e2_E := [(2147483648, 2147583648, 0, 0)]
noncomputable def f_a186 : ev_H := (an694 : e2_Q8)
noncomputable def q_a186_0 : ev_H := (an694 : e2_Q8)
noncomputable def rs_a186 : e2_Rs := [((11, 2147483648, 2147483649), q_a186_0)]
noncomputable def s_a186 : e2_Sm := (72, as_a186, E_a186, f_a186, rs_a186)
noncomputable def S_a186 : List e2_Sm := [s_a185]
noncomputable def I_a186 : List e2_In := [(64, 2, e2x_64), (159, 2, e2x_159)]
set_option maxRecDepth 1000000 in
theorem co_a186 : e2_okSB E_a186.length as_a186 f_a186 rs_a186 = true := by decide +kernel
def al_a186_0 : List ev_V := [(2, 59, 0), (11, 2147483648, 2147483667), (0, 2, 0), (11, 0, 4294967295), (1, 1, 4294967296), (9, 0, 0)]
def E_a186_0 : e2_E := [(2147483648, 2147583648, 0, 0), (2147483648, 2147483667, 1, 0)]
noncomputable def h_a186_0 : ev_H := (an694 : e2_Q8)
noncomputable def cl_a186_e : List (Nat × e2_S) := [(13, e2_cutL (al_a186_0.set 4 (11, 2147483648, 2147483667)) 1 (E_a186_0.take 1) h_a186_0)]
set_option maxRecDepth 1000000 in
theorem ck_a186_e : e2_run (e2_cal S_a186 I_a186 4000 1) (e2_fin rs_a186) e2x_72 (e2_bpL cl_a186_e) (e2_cutA cl_a186_e) 4000 (e2_seek e2x_72 0) (e2_al 6 as_a186) [] E_a186 f_a186 = true := by decide +kernel
noncomputable def cl_a186_0 : List (Nat × e2_S) := [(13, e2_cutL (al_a186_0.set 4 (13, 9, 2147483667)) 1 (E_a186_0.take 1) h_a186_0)]
set_option maxRecDepth 1000000 in
theorem ck_a186_0 : e2_runM (e2_cal S_a186 I_a186 4000 1) (e2_fin rs_a186) e2x_72 (e2_bpL cl_a186_0) (e2_cutA cl_a186_0) 4000 (e2_seek e2x_72 13) al_a186_0 [] E_a186_0 h_a186_0 = true := by decide +kernel
set_option maxRecDepth 1000000 in
theorem ci_a186_0 : e2_idl 1 (al_a186_0.set 4 (9, 0, 0)) = true := by decide +kernel
set_option maxRecDepth 1000000 in
theorem cj_a186_0 : e2_idh 1 8 h_a186_0 = true := by decide +kernel
theorem cs_a186 (hen : en_ok) (l : Launch) (hh : e2_hand_a l) : e2_smOk l 66 s_a186 := by
  refine e2_conG (H := 64) (n := 1) (C := evd_72) (S := S_a186) (I := I_a186) (fuel := 4000) hen ei_72 (e2_fa (cs_a185 hen l hh) e2_fz) (e2_fa ein_64 (e2_fa ein_159 e2_fz)) (by decide) co_a186 fun M d _ hC hcall p e R s m args below meth c Q D cA A ads r0 ha hl0 => ?_
  have L_0 : e2_gdM M p l e R s m args below meth c Q D cA A ads r0 13 al_a186_0 [] E_a186_0 h_a186_0 := by
    refine e2_indL (u := 1) (j := 4) (lo := 2147483648) (hi := 2147483667) (b := 1) (dd := 0) hl0 (by decide) rfl rfl (Or.inr ⟨rfl, rfl⟩) rfl ci_a186_0 cj_a186_0 ?_
    intro r_0 k_0 hk_0 hp_0 hs_0 hn_0
    have hl_0 : r_0.length ≤ 2 := hs_0.len rfl
    have ha_0 := ha.ext hp_0
    exact e2_fromM hen ha_0 hcall (e2_cutA_ok (e2_fa (fun al st E h hc => hn_0 al st E h hc) e2_fz)) (hC []) (X := e2x_72) ex2_72 13 ck_a186_0
  have EN_0 := e2_entL (u := 1) (j := 4) (lo := 2147483648) (hi := 2147483667) hl0 rfl rfl rfl ci_a186_0 cj_a186_0 L_0
  exact e2_from hen ha hcall (e2_cutA_ok (e2_fa (fun al st E h hc => EN_0 al st E h hc) e2_fz)) (hC []) (X := e2x_72) ex2_72 0 ck_a186_e
/-! a187 X4_changeFrom -/
def as_a187 : List ev_V := [(2, 59, 0), (0, 0, 0), (0, 3, 0), (11, 0, 4294967295)]
def E_a187 : e2_E := [(2147483648, 2147583648, 0, 0)]
noncomputable def f_a187 : ev_H := (an694 : e2_Q8)
noncomputable def q_a187_0 : ev_H := (an694 : e2_Q8)
noncomputable def rs_a187 : e2_Rs := [((11, 2147483648, 2147483649), q_a187_0)]
noncomputable def s_a187 : e2_Sm := (72, as_a187, E_a187, f_a187, rs_a187)
noncomputable def S_a187 : List e2_Sm := [s_a186]
noncomputable def I_a187 : List e2_In := [(64, 2, e2x_64), (159, 2, e2x_159)]
set_option maxRecDepth 1000000 in
theorem co_a187 : e2_okSB E_a187.length as_a187 f_a187 rs_a187 = true := by decide +kernel
def al_a187_0 : List ev_V := [(2, 59, 0), (0, 0, 0), (0, 3, 0), (11, 0, 4294967295), (1, 1, 4294967296), (9, 0, 0)]
def E_a187_0 : e2_E := [(2147483648, 2147583648, 0, 0), (2147483648, 2147483666, 1, 0)]
noncomputable def h_a187_0 : ev_H := (an694 : e2_Q8)
noncomputable def cl_a187_e : List (Nat × e2_S) := [(13, e2_cutL (al_a187_0.set 4 (11, 2147483648, 2147483666)) 1 (E_a187_0.take 1) h_a187_0)]
set_option maxRecDepth 1000000 in
theorem ck_a187_e : e2_run (e2_cal S_a187 I_a187 4000 1) (e2_fin rs_a187) e2x_72 (e2_bpL cl_a187_e) (e2_cutA cl_a187_e) 4000 (e2_seek e2x_72 0) (e2_al 6 as_a187) [] E_a187 f_a187 = true := by decide +kernel
noncomputable def cl_a187_0 : List (Nat × e2_S) := [(13, e2_cutL (al_a187_0.set 4 (13, 9, 2147483666)) 1 (E_a187_0.take 1) h_a187_0)]
set_option maxRecDepth 1000000 in
theorem ck_a187_0 : e2_runM (e2_cal S_a187 I_a187 4000 1) (e2_fin rs_a187) e2x_72 (e2_bpL cl_a187_0) (e2_cutA cl_a187_0) 4000 (e2_seek e2x_72 13) al_a187_0 [] E_a187_0 h_a187_0 = true := by decide +kernel
set_option maxRecDepth 1000000 in
theorem ci_a187_0 : e2_idl 1 (al_a187_0.set 4 (9, 0, 0)) = true := by decide +kernel
set_option maxRecDepth 1000000 in
theorem cj_a187_0 : e2_idh 1 8 h_a187_0 = true := by decide +kernel
theorem cs_a187 (hen : en_ok) (l : Launch) (hh : e2_hand_a l) : e2_smOk l 68 s_a187 := by
  refine e2_conG (H := 66) (n := 1) (C := evd_72) (S := S_a187) (I := I_a187) (fuel := 4000) hen ei_72 (e2_fa (cs_a186 hen l hh) e2_fz) (e2_fa ein_64 (e2_fa ein_159 e2_fz)) (by decide) co_a187 fun M d _ hC hcall p e R s m args below meth c Q D cA A ads r0 ha hl0 => ?_
  have L_0 : e2_gdM M p l e R s m args below meth c Q D cA A ads r0 13 al_a187_0 [] E_a187_0 h_a187_0 := by
    refine e2_indL (u := 1) (j := 4) (lo := 2147483648) (hi := 2147483666) (b := 1) (dd := 0) hl0 (by decide) rfl rfl (Or.inr ⟨rfl, rfl⟩) rfl ci_a187_0 cj_a187_0 ?_
    intro r_0 k_0 hk_0 hp_0 hs_0 hn_0
    have hl_0 : r_0.length ≤ 2 := hs_0.len rfl
    have ha_0 := ha.ext hp_0
    exact e2_fromM hen ha_0 hcall (e2_cutA_ok (e2_fa (fun al st E h hc => hn_0 al st E h hc) e2_fz)) (hC []) (X := e2x_72) ex2_72 13 ck_a187_0
  have EN_0 := e2_entL (u := 1) (j := 4) (lo := 2147483648) (hi := 2147483666) hl0 rfl rfl rfl ci_a187_0 cj_a187_0 L_0
  exact e2_from hen ha hcall (e2_cutA_ok (e2_fa (fun al st E h hc => EN_0 al st E h hc) e2_fz)) (hC []) (X := e2x_72) ex2_72 0 ck_a187_e
/-! a188 X4_fewestChanges -/
def as_a188 : List ev_V := [(2, 59, 0)]
def E_a188 : e2_E := [(2147483648, 2147583648, 0, 0)]
noncomputable def f_a188 : ev_H := (an694 : e2_Q8)
noncomputable def q_a188_0 : ev_H := (an694 : e2_Q8)
noncomputable def rs_a188 : e2_Rs := [((11, 2147483647, 2147483651), q_a188_0)]
noncomputable def s_a188 : e2_Sm := (71, as_a188, E_a188, f_a188, rs_a188)
noncomputable def S_a188 : List e2_Sm := [s_a184, s_a185, s_a186, s_a187]
noncomputable def I_a188 : List e2_In := []
set_option maxRecDepth 1000000 in
theorem co_a188 : e2_okSB E_a188.length as_a188 f_a188 rs_a188 = true := by decide +kernel
def al_a188_0 : List ev_V := [(2, 59, 0), (1, 1, 4294967296)]
def E_a188_0 : e2_E := [(2147483648, 2147583648, 0, 0), (2147483648, 2147483652, 1, 0)]
noncomputable def h_a188_0 : ev_H := (an694 : e2_Q8)
noncomputable def cl_a188_e : List (Nat × e2_S) := [(2, e2_cutL (al_a188_0.set 1 (11, 2147483648, 2147483652)) 1 (E_a188_0.take 1) h_a188_0)]
set_option maxRecDepth 1000000 in
theorem ck_a188_e : e2_run (e2_cal S_a188 I_a188 4000 0) (e2_fin rs_a188) e2x_71 (e2_bpL cl_a188_e) (e2_cutA cl_a188_e) 4000 (e2_seek e2x_71 0) (e2_al 2 as_a188) [] E_a188 f_a188 = true := by decide +kernel
noncomputable def cl_a188_0 : List (Nat × e2_S) := [(2, e2_cutL (al_a188_0.set 1 (13, 9, 2147483652)) 1 (E_a188_0.take 1) h_a188_0)]
set_option maxRecDepth 1000000 in
theorem ck_a188_0 : e2_runM (e2_cal S_a188 I_a188 4000 0) (e2_fin rs_a188) e2x_71 (e2_bpL cl_a188_0) (e2_cutA cl_a188_0) 4000 (e2_seek e2x_71 2) al_a188_0 [] E_a188_0 h_a188_0 = true := by decide +kernel
set_option maxRecDepth 1000000 in
theorem ci_a188_0 : e2_idl 1 (al_a188_0.set 1 (9, 0, 0)) = true := by decide +kernel
set_option maxRecDepth 1000000 in
theorem cj_a188_0 : e2_idh 1 8 h_a188_0 = true := by decide +kernel
theorem cs_a188 (hen : en_ok) (l : Launch) (hh : e2_hand_a l) : e2_smOk l 69 s_a188 := by
  refine e2_conG (H := 68) (n := 0) (C := evd_71) (S := S_a188) (I := I_a188) (fuel := 4000) hen ei_71 (e2_fa ((cs_a184 hen l hh).mono (by decide)) (e2_fa ((cs_a185 hen l hh).mono (by decide)) (e2_fa ((cs_a186 hen l hh).mono (by decide)) (e2_fa (cs_a187 hen l hh) e2_fz)))) e2_fz (by decide) co_a188 fun M d _ hC hcall p e R s m args below meth c Q D cA A ads r0 ha hl0 => ?_
  have L_0 : e2_gdM M p l e R s m args below meth c Q D cA A ads r0 2 al_a188_0 [] E_a188_0 h_a188_0 := by
    refine e2_indL (u := 1) (j := 1) (lo := 2147483648) (hi := 2147483652) (b := 1) (dd := 0) hl0 (by decide) rfl rfl (Or.inr ⟨rfl, rfl⟩) rfl ci_a188_0 cj_a188_0 ?_
    intro r_0 k_0 hk_0 hp_0 hs_0 hn_0
    have hl_0 : r_0.length ≤ 2 := hs_0.len rfl
    have ha_0 := ha.ext hp_0
    exact e2_fromM hen ha_0 hcall (e2_cutA_ok (e2_fa (fun al st E h hc => hn_0 al st E h hc) e2_fz)) (hC [9]) (X := e2x_71) ex2_71 2 ck_a188_0
  have EN_0 := e2_entL (u := 1) (j := 1) (lo := 2147483648) (hi := 2147483652) hl0 rfl rfl rfl ci_a188_0 cj_a188_0 L_0
  exact e2_from hen ha hcall (e2_cutA_ok (e2_fa (fun al st E h hc => EN_0 al st E h hc) e2_fz)) (hC [9]) (X := e2x_71) ex2_71 0 ck_a188_e
/-! a189 X4_cellsOfPart -/
def as_a189 : List ev_V := [(2, 59, 0), (11, 2147483649, 2147483903), (11, 2147483648, 2147483656)]
def E_a189 : e2_E := [(2147483648, 2147583648, 0, 0)]
def an695 : e2_Q2 := (an583, an120)
def an696 : e2_Q3 := (an118, an695)
def an697 : e2_Q4 := (an115, an696)
def an698 : e2_Q5 := (an108, an697)
def an699 : e2_Q6 := (an342, an698)
def an700 : e2_Q7 := (an62, an699)
def an701 : e2_Q7 := (an189, an683)
def an702 : e2_Q8 := (an700, an701)
noncomputable def f_a189 : ev_H := (an702 : e2_Q8)
noncomputable def q_a189_0 : ev_H := (an702 : e2_Q8)
noncomputable def rs_a189 : e2_Rs := [((11, 0, 4294967295), q_a189_0)]
noncomputable def s_a189 : e2_Sm := (77, as_a189, E_a189, f_a189, rs_a189)
noncomputable def S_a189 : List e2_Sm := []
noncomputable def I_a189 : List e2_In := [(159, 2, e2x_159)]
set_option maxRecDepth 1000000 in
theorem co_a189 : e2_okSB E_a189.length as_a189 f_a189 rs_a189 = true := by decide +kernel
def al_a189_0 : List ev_V := [(2, 59, 0), (11, 2147483649, 2147483903), (11, 2147483648, 2147483656), (11, 0, 4294967295), (1, 1, 4294967296)]
def E_a189_0 : e2_E := [(2147483648, 2147583648, 0, 0), (2147483648, 2147483656, 1, 0)]
noncomputable def h_a189_0 : ev_H := (an702 : e2_Q8)
noncomputable def cl_a189_e : List (Nat × e2_S) := [(5, e2_cutL (al_a189_0.set 4 (11, 2147483648, 2147483656)) 1 (E_a189_0.take 1) h_a189_0)]
set_option maxRecDepth 1000000 in
theorem ck_a189_e : e2_run (e2_cal S_a189 I_a189 4000 1) (e2_fin rs_a189) e2x_77 (e2_bpL cl_a189_e) (e2_cutA cl_a189_e) 4000 (e2_seek e2x_77 0) (e2_al 5 as_a189) [] E_a189 f_a189 = true := by decide +kernel
noncomputable def cl_a189_0 : List (Nat × e2_S) := [(5, e2_cutL (al_a189_0.set 4 (13, 9, 2147483656)) 1 (E_a189_0.take 1) h_a189_0)]
set_option maxRecDepth 1000000 in
theorem ck_a189_0 : e2_runM (e2_cal S_a189 I_a189 4000 1) (e2_fin rs_a189) e2x_77 (e2_bpL cl_a189_0) (e2_cutA cl_a189_0) 4000 (e2_seek e2x_77 5) al_a189_0 [] E_a189_0 h_a189_0 = true := by decide +kernel
set_option maxRecDepth 1000000 in
theorem ci_a189_0 : e2_idl 1 (al_a189_0.set 4 (9, 0, 0)) = true := by decide +kernel
set_option maxRecDepth 1000000 in
theorem cj_a189_0 : e2_idh 1 8 h_a189_0 = true := by decide +kernel
theorem cs_a189 (hen : en_ok) (l : Launch) : e2_smOk l 2 s_a189 := by
  refine e2_conG (H := 0) (n := 1) (C := evd_77) (S := S_a189) (I := I_a189) (fuel := 4000) hen ei_77 e2_fz (e2_fa ein_159 e2_fz) (by decide) co_a189 fun M d _ hC hcall p e R s m args below meth c Q D cA A ads r0 ha hl0 => ?_
  have L_0 : e2_gdM M p l e R s m args below meth c Q D cA A ads r0 5 al_a189_0 [] E_a189_0 h_a189_0 := by
    refine e2_indL (u := 1) (j := 4) (lo := 2147483648) (hi := 2147483656) (b := 1) (dd := 0) hl0 (by decide) rfl rfl (Or.inr ⟨rfl, rfl⟩) rfl ci_a189_0 cj_a189_0 ?_
    intro r_0 k_0 hk_0 hp_0 hs_0 hn_0
    have hl_0 : r_0.length ≤ 2 := hs_0.len rfl
    have ha_0 := ha.ext hp_0
    exact e2_fromM hen ha_0 hcall (e2_cutA_ok (e2_fa (fun al st E h hc => hn_0 al st E h hc) e2_fz)) (hC []) (X := e2x_77) ex2_77 5 ck_a189_0
  have EN_0 := e2_entL (u := 1) (j := 4) (lo := 2147483648) (hi := 2147483656) hl0 rfl rfl rfl ci_a189_0 cj_a189_0 L_0
  exact e2_from hen ha hcall (e2_cutA_ok (e2_fa (fun al st E h hc => EN_0 al st E h hc) e2_fz)) (hC []) (X := e2x_77) ex2_77 0 ck_a189_e
/-! a190 X4_layFirstOrder -/
def as_a190 : List ev_V := [(2, 59, 0), (11, 2147483648, 2147483656)]
def E_a190 : e2_E := [(2147483648, 2147583648, 0, 0)]
def an703 : e2_Q4 := (an52, an689)
def an704 : e2_Q5 := (an45, an703)
def an705 : e2_Q6 := (an30, an704)
def an706 : e2_Q7 := (an705, an699)
def ac171 : ev_C := (54, [(0, 256, 0), (11, 0, 4294967295)])
def an707 : e2_Q1 := (ac171, ac3)
def an708 : e2_Q2 := (an707, an247)
def an709 : e2_Q3 := (an245, an708)
def an710 : e2_Q4 := (an242, an709)
def an711 : e2_Q5 := (an235, an710)
def an712 : e2_Q6 := (an682, an711)
def an713 : e2_Q7 := (an189, an712)
def an714 : e2_Q8 := (an706, an713)
noncomputable def f_a190 : ev_H := (an714 : e2_Q8)
noncomputable def q_a190_0 : ev_H := (an714 : e2_Q8)
noncomputable def rs_a190 : e2_Rs := [((9, 0, 0), q_a190_0)]
noncomputable def s_a190 : e2_Sm := (79, as_a190, E_a190, f_a190, rs_a190)
noncomputable def S_a190 : List e2_Sm := []
noncomputable def I_a190 : List e2_In := [(64, 2, e2x_64), (159, 2, e2x_159)]
set_option maxRecDepth 1000000 in
theorem co_a190 : e2_okSB E_a190.length as_a190 f_a190 rs_a190 = true := by decide +kernel
def al_a190_0 : List ev_V := [(2, 59, 0), (11, 2147483649, 2147483656), (11, 2147483648, 2147483903), (1, 1, 4294967296), (11, 2147483648, 2147483655), (1, 2, 4294967296)]
def E_a190_0 : e2_E := [(2147483648, 2147583648, 0, 0), (2147483648, 2147483655, 1, 0), (2147483647, 2147483655, 2, 0)]
noncomputable def h_a190_0 : ev_H := (an714 : e2_Q8)
def al_a190_1 : List ev_V := [(2, 59, 0), (11, 2147483648, 2147483656), (11, 2147483648, 2147483903), (1, 1, 4294967296), (9, 0, 0), (9, 0, 0)]
def E_a190_1 : e2_E := [(2147483648, 2147583648, 0, 0), (2147483648, 2147483656, 1, 0)]
noncomputable def h_a190_1 : ev_H := (an714 : e2_Q8)
noncomputable def cl_a190_e : List (Nat × e2_S) := [(4, e2_cutL (al_a190_1.set 3 (11, 2147483648, 2147483656)) 1 (E_a190_1.take 1) h_a190_1)]
set_option maxRecDepth 1000000 in
theorem ck_a190_e : e2_run (e2_cal S_a190 I_a190 4000 1) (e2_fin rs_a190) e2x_79 (e2_bpL cl_a190_e) (e2_cutA cl_a190_e) 4000 (e2_seek e2x_79 0) (e2_al 6 as_a190) [] E_a190 f_a190 = true := by decide +kernel
noncomputable def cl_a190_0 : List (Nat × e2_S) := [(17, e2_cutL (al_a190_0.set 5 (12, 10, 2147483647)) 2 (E_a190_0.take 2) h_a190_0),
  (4, e2_cutL (al_a190_1.set 3 (13, 9, 2147483656)) 1 (E_a190_1.take 1) h_a190_1)]
set_option maxRecDepth 1000000 in
theorem ck_a190_0 : e2_runM (e2_cal S_a190 I_a190 4000 1) (e2_fin rs_a190) e2x_79 (e2_bpL cl_a190_0) (e2_cutA cl_a190_0) 4000 (e2_seek e2x_79 17) al_a190_0 [] E_a190_0 h_a190_0 = true := by decide +kernel
set_option maxRecDepth 1000000 in
theorem ci_a190_0 : e2_idl 2 (al_a190_0.set 5 (9, 0, 0)) = true := by decide +kernel
set_option maxRecDepth 1000000 in
theorem cj_a190_0 : e2_idh 2 8 h_a190_0 = true := by decide +kernel
noncomputable def cl_a190_1 : List (Nat × e2_S) := [(17, e2_cutL (al_a190_0.set 5 (11, 2147483647, 2147483655)) 2 (E_a190_0.take 2) h_a190_0)]
set_option maxRecDepth 1000000 in
theorem ck_a190_1 : e2_runM (e2_cal S_a190 I_a190 4000 1) (e2_fin rs_a190) e2x_79 (e2_bpL cl_a190_1) (e2_cutA cl_a190_1) 4000 (e2_seek e2x_79 4) al_a190_1 [] E_a190_1 h_a190_1 = true := by decide +kernel
set_option maxRecDepth 1000000 in
theorem ci_a190_1 : e2_idl 1 (al_a190_1.set 3 (9, 0, 0)) = true := by decide +kernel
set_option maxRecDepth 1000000 in
theorem cj_a190_1 : e2_idh 1 8 h_a190_1 = true := by decide +kernel
theorem cs_a190 (hen : en_ok) (l : Launch) : e2_smOk l 2 s_a190 := by
  refine e2_conG (H := 0) (n := 1) (C := evd_79) (S := S_a190) (I := I_a190) (fuel := 4000) hen ei_79 e2_fz (e2_fa ein_64 (e2_fa ein_159 e2_fz)) (by decide) co_a190 fun M d _ hC hcall p e R s m args below meth c Q D cA A ads r0 ha hl0 => ?_
  have L_1 : e2_gdM M p l e R s m args below meth c Q D cA A ads r0 4 al_a190_1 [] E_a190_1 h_a190_1 := by
    refine e2_indL (u := 1) (j := 3) (lo := 2147483648) (hi := 2147483656) (b := 1) (dd := 0) hl0 (by decide) rfl rfl (Or.inr ⟨rfl, rfl⟩) rfl ci_a190_1 cj_a190_1 ?_
    intro r_1 k_1 hk_1 hp_1 hs_1 hn_1
    have hl_1 : r_1.length ≤ 2 := hs_1.len rfl
    have ha_1 := ha.ext hp_1
    have L_0 : e2_gdM M p l e R s m args below meth c Q D cA A ads r_1 17 al_a190_0 [] E_a190_0 h_a190_0 := by
      refine e2_indD (u := 2) (j := 5) (lo := 2147483647) (hi := 2147483655) hl_1 (by decide) rfl rfl rfl ci_a190_0 cj_a190_0 ?_
      intro r_0 k_0 hk_0 hp_0 hs_0 hn_0
      have hl_0 : r_0.length ≤ 3 := hs_0.len rfl
      have ha_0 := ha_1.ext hp_0
      exact e2_fromM hen ha_0 hcall (e2_cutA_ok (e2_fa (fun al st E h hc => hn_0 al st E h hc) (e2_fa (fun al st E h hc => (hn_1 al st E h hc).ext hp_0) e2_fz))) (hC [37, 68]) (X := e2x_79) ex2_79 17 ck_a190_0
    have EN_0 := e2_entL (u := 2) (j := 5) (lo := 2147483647) (hi := 2147483655) hl_1 rfl rfl rfl ci_a190_0 cj_a190_0 L_0
    exact e2_fromM hen ha_1 hcall (e2_cutA_ok (e2_fa (fun al st E h hc => EN_0 al st E h hc) e2_fz)) (hC [37, 68]) (X := e2x_79) ex2_79 4 ck_a190_1
  have EN_1 := e2_entL (u := 1) (j := 3) (lo := 2147483648) (hi := 2147483656) hl0 rfl rfl rfl ci_a190_1 cj_a190_1 L_1
  exact e2_from hen ha hcall (e2_cutA_ok (e2_fa (fun al st E h hc => EN_1 al st E h hc) e2_fz)) (hC [37, 68]) (X := e2x_79) ex2_79 0 ck_a190_e
/-! a191 X4_listMembers -/
def as_a191 : List ev_V := [(2, 59, 0), (11, 0, 4294967295)]
def E_a191 : e2_E := [(2147483648, 2147583648, 0, 0)]
def an715 : e2_Q2 := (an284, an128)
def an716 : e2_Q3 := (an715, an132)
def an717 : e2_Q4 := (an716, an140)
def an718 : e2_Q5 := (an717, an156)
def an719 : e2_Q6 := (an718, an188)
def an720 : e2_Q7 := (an719, an683)
def an721 : e2_Q8 := (an700, an720)
noncomputable def f_a191 : ev_H := (an721 : e2_Q8)
noncomputable def q_a191_0 : ev_H := (an721 : e2_Q8)
noncomputable def rs_a191 : e2_Rs := [((11, 2147483648, 2147483656), q_a191_0)]
noncomputable def s_a191 : e2_Sm := (76, as_a191, E_a191, f_a191, rs_a191)
noncomputable def S_a191 : List e2_Sm := []
noncomputable def I_a191 : List e2_In := [(159, 2, e2x_159)]
set_option maxRecDepth 1000000 in
theorem co_a191 : e2_okSB E_a191.length as_a191 f_a191 rs_a191 = true := by decide +kernel
def al_a191_0 : List ev_V := [(2, 59, 0), (11, 0, 4294967295), (11, 2147483648, 2147483656), (1, 1, 4294967296)]
def E_a191_0 : e2_E := [(2147483648, 2147583648, 0, 0), (2147483648, 2147483668, 1, 0)]
noncomputable def h_a191_0 : ev_H := (an721 : e2_Q8)
noncomputable def cl_a191_e : List (Nat × e2_S) := [(4, e2_cutL (al_a191_0.set 3 (11, 2147483648, 2147483668)) 1 (E_a191_0.take 1) h_a191_0)]
set_option maxRecDepth 1000000 in
theorem ck_a191_e : e2_run (e2_cal S_a191 I_a191 4000 1) (e2_fin rs_a191) e2x_76 (e2_bpL cl_a191_e) (e2_cutA cl_a191_e) 4000 (e2_seek e2x_76 0) (e2_al 4 as_a191) [] E_a191 f_a191 = true := by decide +kernel
noncomputable def cl_a191_0 : List (Nat × e2_S) := [(4, e2_cutL (al_a191_0.set 3 (13, 9, 2147483668)) 1 (E_a191_0.take 1) h_a191_0)]
set_option maxRecDepth 1000000 in
theorem ck_a191_0 : e2_runM (e2_cal S_a191 I_a191 4000 1) (e2_fin rs_a191) e2x_76 (e2_bpL cl_a191_0) (e2_cutA cl_a191_0) 4000 (e2_seek e2x_76 4) al_a191_0 [] E_a191_0 h_a191_0 = true := by decide +kernel
set_option maxRecDepth 1000000 in
theorem ci_a191_0 : e2_idl 1 (al_a191_0.set 3 (9, 0, 0)) = true := by decide +kernel
set_option maxRecDepth 1000000 in
theorem cj_a191_0 : e2_idh 1 8 h_a191_0 = true := by decide +kernel
theorem cs_a191 (hen : en_ok) (l : Launch) : e2_smOk l 2 s_a191 := by
  refine e2_conG (H := 0) (n := 1) (C := evd_76) (S := S_a191) (I := I_a191) (fuel := 4000) hen ei_76 e2_fz (e2_fa ein_159 e2_fz) (by decide) co_a191 fun M d _ hC hcall p e R s m args below meth c Q D cA A ads r0 ha hl0 => ?_
  have L_0 : e2_gdM M p l e R s m args below meth c Q D cA A ads r0 4 al_a191_0 [] E_a191_0 h_a191_0 := by
    refine e2_indL (u := 1) (j := 3) (lo := 2147483648) (hi := 2147483668) (b := 1) (dd := 0) hl0 (by decide) rfl rfl (Or.inr ⟨rfl, rfl⟩) rfl ci_a191_0 cj_a191_0 ?_
    intro r_0 k_0 hk_0 hp_0 hs_0 hn_0
    have hl_0 : r_0.length ≤ 2 := hs_0.len rfl
    have ha_0 := ha.ext hp_0
    exact e2_fromM hen ha_0 hcall (e2_cutA_ok (e2_fa (fun al st E h hc => hn_0 al st E h hc) e2_fz)) (hC []) (X := e2x_76) ex2_76 4 ck_a191_0
  have EN_0 := e2_entL (u := 1) (j := 3) (lo := 2147483648) (hi := 2147483668) hl0 rfl rfl rfl ci_a191_0 cj_a191_0 L_0
  exact e2_from hen ha hcall (e2_cutA_ok (e2_fa (fun al st E h hc => EN_0 al st E h hc) e2_fz)) (hC []) (X := e2x_76) ex2_76 0 ck_a191_e
/-! a192 X4_waysOn -/
def as_a192 : List ev_V := [(2, 59, 0), (11, 2147483648, 2147483903), (11, 2147483648, 2147483656)]
def E_a192 : e2_E := [(2147483648, 2147583648, 0, 0)]
def an722 : e2_Q8 := (an344, an713)
noncomputable def f_a192 : ev_H := (an722 : e2_Q8)
noncomputable def q_a192_0 : ev_H := (an722 : e2_Q8)
noncomputable def rs_a192 : e2_Rs := [((11, 0, 4294967295), q_a192_0)]
noncomputable def s_a192 : e2_Sm := (78, as_a192, E_a192, f_a192, rs_a192)
noncomputable def S_a192 : List e2_Sm := []
noncomputable def I_a192 : List e2_In := [(159, 2, e2x_159)]
set_option maxRecDepth 1000000 in
theorem co_a192 : e2_okSB E_a192.length as_a192 f_a192 rs_a192 = true := by decide +kernel
def al_a192_0 : List ev_V := [(2, 59, 0), (11, 2147483648, 2147483903), (11, 2147483648, 2147483656), (11, 0, 4294967295), (1, 1, 4294967296)]
def E_a192_0 : e2_E := [(2147483648, 2147583648, 0, 0), (2147483648, 2147483656, 1, 0)]
noncomputable def h_a192_0 : ev_H := (an722 : e2_Q8)
noncomputable def cl_a192_e : List (Nat × e2_S) := [(5, e2_cutL (al_a192_0.set 4 (11, 2147483648, 2147483656)) 1 (E_a192_0.take 1) h_a192_0)]
set_option maxRecDepth 1000000 in
theorem ck_a192_e : e2_run (e2_cal S_a192 I_a192 4000 1) (e2_fin rs_a192) e2x_78 (e2_bpL cl_a192_e) (e2_cutA cl_a192_e) 4000 (e2_seek e2x_78 0) (e2_al 5 as_a192) [] E_a192 f_a192 = true := by decide +kernel
noncomputable def cl_a192_0 : List (Nat × e2_S) := [(5, e2_cutL (al_a192_0.set 4 (13, 9, 2147483656)) 1 (E_a192_0.take 1) h_a192_0)]
set_option maxRecDepth 1000000 in
theorem ck_a192_0 : e2_runM (e2_cal S_a192 I_a192 4000 1) (e2_fin rs_a192) e2x_78 (e2_bpL cl_a192_0) (e2_cutA cl_a192_0) 4000 (e2_seek e2x_78 5) al_a192_0 [] E_a192_0 h_a192_0 = true := by decide +kernel
set_option maxRecDepth 1000000 in
theorem ci_a192_0 : e2_idl 1 (al_a192_0.set 4 (9, 0, 0)) = true := by decide +kernel
set_option maxRecDepth 1000000 in
theorem cj_a192_0 : e2_idh 1 8 h_a192_0 = true := by decide +kernel
theorem cs_a192 (hen : en_ok) (l : Launch) : e2_smOk l 2 s_a192 := by
  refine e2_conG (H := 0) (n := 1) (C := evd_78) (S := S_a192) (I := I_a192) (fuel := 4000) hen ei_78 e2_fz (e2_fa ein_159 e2_fz) (by decide) co_a192 fun M d _ hC hcall p e R s m args below meth c Q D cA A ads r0 ha hl0 => ?_
  have L_0 : e2_gdM M p l e R s m args below meth c Q D cA A ads r0 5 al_a192_0 [] E_a192_0 h_a192_0 := by
    refine e2_indL (u := 1) (j := 4) (lo := 2147483648) (hi := 2147483656) (b := 1) (dd := 0) hl0 (by decide) rfl rfl (Or.inr ⟨rfl, rfl⟩) rfl ci_a192_0 cj_a192_0 ?_
    intro r_0 k_0 hk_0 hp_0 hs_0 hn_0
    have hl_0 : r_0.length ≤ 2 := hs_0.len rfl
    have ha_0 := ha.ext hp_0
    exact e2_fromM hen ha_0 hcall (e2_cutA_ok (e2_fa (fun al st E h hc => hn_0 al st E h hc) e2_fz)) (hC [27]) (X := e2x_78) ex2_78 5 ck_a192_0
  have EN_0 := e2_entL (u := 1) (j := 4) (lo := 2147483648) (hi := 2147483656) hl0 rfl rfl rfl ci_a192_0 cj_a192_0 L_0
  exact e2_from hen ha hcall (e2_cutA_ok (e2_fa (fun al st E h hc => EN_0 al st E h hc) e2_fz)) (hC [27]) (X := e2x_78) ex2_78 0 ck_a192_e
/-! a193 X4_countOrders -/
def as_a193 : List ev_V := [(2, 59, 0), (11, 0, 4294967295)]
def E_a193 : e2_E := [(2147483648, 2147583648, 0, 0)]
def an723 : e2_Q5 := (an642, an697)
def an724 : e2_Q6 := (an641, an723)
def an725 : e2_Q7 := (an692, an724)
def an726 : e2_Q4 := (an335, an709)
def an727 : e2_Q5 := (an318, an726)
def an728 : e2_Q6 := (an652, an727)
def an729 : e2_Q7 := (an650, an728)
def an730 : e2_Q8 := (an725, an729)
noncomputable def f_a193 : ev_H := (an730 : e2_Q8)
noncomputable def q_a193_0 : ev_H := (an730 : e2_Q8)
noncomputable def rs_a193 : e2_Rs := [((11, 0, 4294967295), q_a193_0)]
noncomputable def s_a193 : e2_Sm := (75, as_a193, E_a193, f_a193, rs_a193)
noncomputable def S_a193 : List e2_Sm := [s_a178, s_a189, s_a190, s_a191, s_a192]
noncomputable def I_a193 : List e2_In := []
set_option maxRecDepth 1000000 in
theorem co_a193 : e2_okSB E_a193.length as_a193 f_a193 rs_a193 = true := by decide +kernel
def al_a193_0 : List ev_V := [(2, 59, 0), (11, 0, 4294967295), (11, 2147483648, 2147483656), (11, 2147483648, 2147483903), (1, 1, 4294967296)]
def E_a193_0 : e2_E := [(2147483648, 2147583648, 0, 0), (2147483647, 2147483903, 1, 0)]
noncomputable def h_a193_0 : ev_H := (an730 : e2_Q8)
noncomputable def cl_a193_e : List (Nat × e2_S) := [(22, e2_cutL (al_a193_0.set 4 (11, 2147483647, 2147483903)) 1 (E_a193_0.take 1) h_a193_0)]
set_option maxRecDepth 1000000 in
theorem ck_a193_e : e2_run (e2_cal S_a193 I_a193 4000 0) (e2_fin rs_a193) e2x_75 (e2_bpL cl_a193_e) (e2_cutA cl_a193_e) 4000 (e2_seek e2x_75 0) (e2_al 5 as_a193) [] E_a193 f_a193 = true := by decide +kernel
noncomputable def cl_a193_0 : List (Nat × e2_S) := [(22, e2_cutL (al_a193_0.set 4 (12, 9, 2147483647)) 1 (E_a193_0.take 1) h_a193_0)]
set_option maxRecDepth 1000000 in
theorem ck_a193_0 : e2_runM (e2_cal S_a193 I_a193 4000 0) (e2_fin rs_a193) e2x_75 (e2_bpL cl_a193_0) (e2_cutA cl_a193_0) 4000 (e2_seek e2x_75 22) al_a193_0 [] E_a193_0 h_a193_0 = true := by decide +kernel
set_option maxRecDepth 1000000 in
theorem ci_a193_0 : e2_idl 1 (al_a193_0.set 4 (9, 0, 0)) = true := by decide +kernel
set_option maxRecDepth 1000000 in
theorem cj_a193_0 : e2_idh 1 8 h_a193_0 = true := by decide +kernel
theorem cs_a193 (hen : en_ok) (l : Launch) (hh : e2_hand_a l) : e2_smOk l 62 s_a193 := by
  refine e2_conG (H := 61) (n := 0) (C := evd_75) (S := S_a193) (I := I_a193) (fuel := 4000) hen ei_75 (e2_fa (cs_a178 hen l hh) (e2_fa ((cs_a189 hen l).mono (by decide)) (e2_fa ((cs_a190 hen l).mono (by decide)) (e2_fa ((cs_a191 hen l).mono (by decide)) (e2_fa ((cs_a192 hen l).mono (by decide)) e2_fz))))) e2_fz (by decide) co_a193 fun M d _ hC hcall p e R s m args below meth c Q D cA A ads r0 ha hl0 => ?_
  have L_0 : e2_gdM M p l e R s m args below meth c Q D cA A ads r0 22 al_a193_0 [] E_a193_0 h_a193_0 := by
    refine e2_indD (u := 1) (j := 4) (lo := 2147483647) (hi := 2147483903) hl0 (by decide) rfl rfl rfl ci_a193_0 cj_a193_0 ?_
    intro r_0 k_0 hk_0 hp_0 hs_0 hn_0
    have hl_0 : r_0.length ≤ 2 := hs_0.len rfl
    have ha_0 := ha.ext hp_0
    exact e2_fromM hen ha_0 hcall (e2_cutA_ok (e2_fa (fun al st E h hc => hn_0 al st E h hc) e2_fz)) (hC [7]) (X := e2x_75) ex2_75 22 ck_a193_0
  have EN_0 := e2_entL (u := 1) (j := 4) (lo := 2147483647) (hi := 2147483903) hl0 rfl rfl rfl ci_a193_0 cj_a193_0 L_0
  exact e2_from hen ha hcall (e2_cutA_ok (e2_fa (fun al st E h hc => EN_0 al st E h hc) e2_fz)) (hC [7]) (X := e2x_75) ex2_75 0 ck_a193_e
