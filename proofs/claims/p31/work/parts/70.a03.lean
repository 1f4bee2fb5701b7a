/-! CONTRACTS a, printed by a program -/
/-! a109 X3_parseUnit -/
def as_a109 : List ev_V := [(2, 33, 0), (2, 27, 0), (0, 7, 0)]
def E_a109 : e2_E := [(2147483648, 2147583648, 0, 0), (2147483652, 2147483668, 1, 0), (2147483648, 2147485248, 2, 0)]
def an593 : e2_Q2 := (an436, an54)
def an594 : e2_Q3 := (an593, an58)
def an595 : e2_Q4 := (an52, an594)
def an596 : e2_Q5 := (an45, an595)
def an597 : e2_Q6 := (an30, an596)
def an598 : e2_Q7 := (an597, an125)
def ac169 : ev_C := (0, [(2, 28, 0), (2, 29, 0), (11, 0, 4294967295), (11, 2147483648, 2147483948)])
def an599 : e2_Q1 := (ac169, ac3)
def an600 : e2_Q2 := (an599, an213)
def an601 : e2_Q3 := (an600, an217)
def an602 : e2_Q4 := (an211, an601)
def an603 : e2_Q5 := (an204, an602)
def an604 : e2_Q6 := (an603, an251)
def an605 : e2_Q7 := (an575, an604)
def an606 : e2_Q8 := (an598, an605)
noncomputable def f_a109 : ev_H := (an606 : e2_Q8)
noncomputable def q_a109_0 : ev_H := (an606 : e2_Q8)
noncomputable def rs_a109 : e2_Rs := [((11, 2147483648, 2147483649), q_a109_0)]
noncomputable def s_a109 : e2_Sm := (62, as_a109, E_a109, f_a109, rs_a109)
noncomputable def S_a109 : List e2_Sm := [s_a37]
noncomputable def I_a109 : List e2_In := [(18, 2, e2x_18), (19, 2, e2x_19), (20, 2, e2x_20), (43, 2, e2x_43), (44, 3, e2x_44)]
set_option maxRecDepth 1000000 in
theorem ck_a109 : e2_run (e2_cal S_a109 I_a109 4000 2) (e2_fin rs_a109) e2x_62 (fun _ => false) (fun _ _ _ _ _ => false) 4000 (e2_seek e2x_62 0) (e2_al 7 as_a109) [] E_a109 f_a109 = true := by decide +kernel
set_option maxRecDepth 1000000 in
theorem co_a109 : e2_okSB E_a109.length as_a109 f_a109 rs_a109 = true := by decide +kernel
theorem cs_a109 (hen : en_ok) (l : Launch) (hh : e2_hand_a l) : e2_smOk l 65 s_a109 := e2_con0 (H := 62) (n := 2) (C := evd_62) (S := S_a109) (I := I_a109) (fuel := 4000) [] hen ei_62 (e2_fa (cs_a37 hen l hh) e2_fz) (e2_fa ein_18 (e2_fa ein_19 (e2_fa ein_20 (e2_fa ein_43 (e2_fa ein_44 e2_fz))))) (by decide) co_a109 ex2_62 ck_a109
/-! a110 X3_parseLevel -/
def as_a110 : List ev_V := [(2, 33, 0), (2, 27, 0), (0, 5, 0), (0, 7, 0)]
def E_a110 : e2_E := [(2147483648, 2147583648, 0, 0), (2147483652, 2147483668, 1, 0), (2147483648, 2147485248, 2, 0)]
noncomputable def f_a110 : ev_H := (an606 : e2_Q8)
noncomputable def q_a110_0 : ev_H := (an606 : e2_Q8)
noncomputable def rs_a110 : e2_Rs := [((11, 2147483648, 2147483649), q_a110_0)]
noncomputable def s_a110 : e2_Sm := (59, as_a110, E_a110, f_a110, rs_a110)
noncomputable def S_a110 : List e2_Sm := [s_a109]
noncomputable def I_a110 : List e2_In := []
set_option maxRecDepth 1000000 in
theorem ck_a110 : e2_run (e2_cal S_a110 I_a110 4000 0) (e2_fin rs_a110) e2x_59 (fun _ => false) (fun _ _ _ _ _ => false) 4000 (e2_seek e2x_59 0) (e2_al 7 as_a110) [] E_a110 f_a110 = true := by decide +kernel
set_option maxRecDepth 1000000 in
theorem co_a110 : e2_okSB E_a110.length as_a110 f_a110 rs_a110 = true := by decide +kernel
theorem cs_a110 (hen : en_ok) (l : Launch) (hh : e2_hand_a l) : e2_smOk l 66 s_a110 := e2_con0 (H := 65) (n := 0) (C := evd_59) (S := S_a110) (I := I_a110) (fuel := 4000) [] hen ei_59 (e2_fa (cs_a109 hen l hh) e2_fz) e2_fz (by decide) co_a110 ex2_59 ck_a110
/-! a111 X3_parseLevel -/
def as_a111 : List ev_V := [(2, 33, 0), (2, 27, 0), (0, 4, 0), (0, 7, 0)]
def E_a111 : e2_E := [(2147483648, 2147583648, 0, 0), (2147483652, 2147483668, 1, 0), (2147483648, 2147485248, 2, 0)]
noncomputable def f_a111 : ev_H := (an606 : e2_Q8)
noncomputable def q_a111_0 : ev_H := (an606 : e2_Q8)
noncomputable def rs_a111 : e2_Rs := [((11, 2147483648, 2147483649), q_a111_0)]
noncomputable def s_a111 : e2_Sm := (59, as_a111, E_a111, f_a111, rs_a111)
noncomputable def S_a111 : List e2_Sm := [s_a37, s_a110]
noncomputable def I_a111 : List e2_In := [(19, 2, e2x_19), (20, 2, e2x_20), (60, 1, e2x_60)]
set_option maxRecDepth 1000000 in
theorem co_a111 : e2_okSB E_a111.length as_a111 f_a111 rs_a111 = true := by decide +kernel
def al_a111_0 : List ev_V := [(2, 33, 0), (2, 27, 0), (0, 4, 0), (0, 7, 0), (0, 30, 0), (1, 3, 4294967296), (9, 0, 0)]
def E_a111_0 : e2_E := [(2147483648, 2147583648, 0, 0), (2147483652, 2147483668, 1, 0), (2147483648, 2147485248, 2, 0), (2147483648, 2147483678, 3, 0)]
noncomputable def h_a111_0 : ev_H := (an606 : e2_Q8)
noncomputable def cl_a111_e : List (Nat × e2_S) := [(66, e2_cutL (al_a111_0.set 5 (11, 2147483648, 2147483678)) 3 (E_a111_0.take 3) h_a111_0)]
set_option maxRecDepth 1000000 in
theorem ck_a111_e : e2_run (e2_cal S_a111 I_a111 4000 2) (e2_fin rs_a111) e2x_59 (e2_bpL cl_a111_e) (e2_cutA cl_a111_e) 4000 (e2_seek e2x_59 0) (e2_al 7 as_a111) [] E_a111 f_a111 = true := by decide +kernel
noncomputable def cl_a111_0 : List (Nat × e2_S) := [(66, e2_cutL (al_a111_0.set 5 (13, 11, 2147483678)) 3 (E_a111_0.take 3) h_a111_0)]
set_option maxRecDepth 1000000 in
theorem ck_a111_0 : e2_runM (e2_cal S_a111 I_a111 4000 2) (e2_fin rs_a111) e2x_59 (e2_bpL cl_a111_0) (e2_cutA cl_a111_0) 4000 (e2_seek e2x_59 66) al_a111_0 [] E_a111_0 h_a111_0 = true := by decide +kernel
set_option maxRecDepth 1000000 in
theorem ci_a111_0 : e2_idl 3 (al_a111_0.set 5 (9, 0, 0)) = true := by decide +kernel
set_option maxRecDepth 1000000 in
theorem cj_a111_0 : e2_idh 3 8 h_a111_0 = true := by decide +kernel
theorem cs_a111 (hen : en_ok) (l : Launch) (hh : e2_hand_a l) : e2_smOk l 69 s_a111 := by
  refine e2_conG (H := 66) (n := 2) (C := evd_59) (S := S_a111) (I := I_a111) (fuel := 4000) hen ei_59 (e2_fa ((cs_a37 hen l hh).mono (by decide)) (e2_fa (cs_a110 hen l hh) e2_fz)) (e2_fa ein_19 (e2_fa ein_20 (e2_fa ein_60 e2_fz))) (by decide) co_a111 fun M d _ hC hcall p e R s m args below meth c Q D cA A ads r0 ha hl0 => ?_
  have L_0 : e2_gdM M p l e R s m args below meth c Q D cA A ads r0 66 al_a111_0 [] E_a111_0 h_a111_0 := by
    refine e2_indL (u := 3) (j := 5) (lo := 2147483648) (hi := 2147483678) (b := 3) (dd := 0) hl0 (by decide) rfl rfl (Or.inr ⟨rfl, rfl⟩) rfl ci_a111_0 cj_a111_0 ?_
    intro r_0 k_0 hk_0 hp_0 hs_0 hn_0
    have hl_0 : r_0.length ≤ 4 := hs_0.len rfl
    have ha_0 := ha.ext hp_0
    exact e2_fromM hen ha_0 hcall (e2_cutA_ok (e2_fa (fun al st E h hc => hn_0 al st E h hc) e2_fz)) (hC []) (X := e2x_59) ex2_59 66 ck_a111_0
  have EN_0 := e2_entL (u := 3) (j := 5) (lo := 2147483648) (hi := 2147483678) hl0 rfl rfl rfl ci_a111_0 cj_a111_0 L_0
  exact e2_from hen ha hcall (e2_cutA_ok (e2_fa (fun al st E h hc => EN_0 al st E h hc) e2_fz)) (hC []) (X := e2x_59) ex2_59 0 ck_a111_e
/-! a112 X3_parseLevel -/
def as_a112 : List ev_V := [(2, 33, 0), (2, 27, 0), (0, 3, 0), (0, 7, 0)]
def E_a112 : e2_E := [(2147483648, 2147583648, 0, 0), (2147483652, 2147483668, 1, 0), (2147483648, 2147485248, 2, 0)]
noncomputable def f_a112 : ev_H := (an606 : e2_Q8)
noncomputable def q_a112_0 : ev_H := (an606 : e2_Q8)
noncomputable def rs_a112 : e2_Rs := [((11, 2147483648, 2147483649), q_a112_0)]
noncomputable def s_a112 : e2_Sm := (59, as_a112, E_a112, f_a112, rs_a112)
noncomputable def S_a112 : List e2_Sm := [s_a37, s_a111]
noncomputable def I_a112 : List e2_In := [(19, 2, e2x_19), (20, 2, e2x_20), (60, 1, e2x_60)]
set_option maxRecDepth 1000000 in
theorem co_a112 : e2_okSB E_a112.length as_a112 f_a112 rs_a112 = true := by decide +kernel
def al_a112_0 : List ev_V := [(2, 33, 0), (2, 27, 0), (0, 3, 0), (0, 7, 0), (0, 30, 0), (1, 3, 4294967296), (9, 0, 0)]
def E_a112_0 : e2_E := [(2147483648, 2147583648, 0, 0), (2147483652, 2147483668, 1, 0), (2147483648, 2147485248, 2, 0), (2147483648, 2147483678, 3, 0)]
noncomputable def h_a112_0 : ev_H := (an606 : e2_Q8)
noncomputable def cl_a112_e : List (Nat × e2_S) := [(66, e2_cutL (al_a112_0.set 5 (11, 2147483648, 2147483678)) 3 (E_a112_0.take 3) h_a112_0)]
set_option maxRecDepth 1000000 in
theorem ck_a112_e : e2_run (e2_cal S_a112 I_a112 4000 2) (e2_fin rs_a112) e2x_59 (e2_bpL cl_a112_e) (e2_cutA cl_a112_e) 4000 (e2_seek e2x_59 0) (e2_al 7 as_a112) [] E_a112 f_a112 = true := by decide +kernel
noncomputable def cl_a112_0 : List (Nat × e2_S) := [(66, e2_cutL (al_a112_0.set 5 (13, 11, 2147483678)) 3 (E_a112_0.take 3) h_a112_0)]
set_option maxRecDepth 1000000 in
theorem ck_a112_0 : e2_runM (e2_cal S_a112 I_a112 4000 2) (e2_fin rs_a112) e2x_59 (e2_bpL cl_a112_0) (e2_cutA cl_a112_0) 4000 (e2_seek e2x_59 66) al_a112_0 [] E_a112_0 h_a112_0 = true := by decide +kernel
set_option maxRecDepth 1000000 in
theorem ci_a112_0 : e2_idl 3 (al_a112_0.set 5 (9, 0, 0)) = true := by decide +kernel
set_option maxRecDepth 1000000 in
theorem cj_a112_0 : e2_idh 3 8 h_a112_0 = true := by decide +kernel
theorem cs_a112 (hen : en_ok) (l : Launch) (hh : e2_hand_a l) : e2_smOk l 72 s_a112 := by
  refine e2_conG (H := 69) (n := 2) (C := evd_59) (S := S_a112) (I := I_a112) (fuel := 4000) hen ei_59 (e2_fa ((cs_a37 hen l hh).mono (by decide)) (e2_fa (cs_a111 hen l hh) e2_fz)) (e2_fa ein_19 (e2_fa ein_20 (e2_fa ein_60 e2_fz))) (by decide) co_a112 fun M d _ hC hcall p e R s m args below meth c Q D cA A ads r0 ha hl0 => ?_
  have L_0 : e2_gdM M p l e R s m args below meth c Q D cA A ads r0 66 al_a112_0 [] E_a112_0 h_a112_0 := by
    refine e2_indL (u := 3) (j := 5) (lo := 2147483648) (hi := 2147483678) (b := 3) (dd := 0) hl0 (by decide) rfl rfl (Or.inr ⟨rfl, rfl⟩) rfl ci_a112_0 cj_a112_0 ?_
    intro r_0 k_0 hk_0 hp_0 hs_0 hn_0
    have hl_0 : r_0.length ≤ 4 := hs_0.len rfl
    have ha_0 := ha.ext hp_0
    exact e2_fromM hen ha_0 hcall (e2_cutA_ok (e2_fa (fun al st E h hc => hn_0 al st E h hc) e2_fz)) (hC []) (X := e2x_59) ex2_59 66 ck_a112_0
  have EN_0 := e2_entL (u := 3) (j := 5) (lo := 2147483648) (hi := 2147483678) hl0 rfl rfl rfl ci_a112_0 cj_a112_0 L_0
  exact e2_from hen ha hcall (e2_cutA_ok (e2_fa (fun al st E h hc => EN_0 al st E h hc) e2_fz)) (hC []) (X := e2x_59) ex2_59 0 ck_a112_e
/-! a113 X3_parseNot -/
def as_a113 : List ev_V := [(2, 33, 0), (2, 27, 0), (0, 7, 0)]
def E_a113 : e2_E := [(2147483648, 2147583648, 0, 0), (2147483652, 2147483668, 1, 0), (2147483648, 2147485248, 2, 0)]
noncomputable def f_a113 : ev_H := (an592 : e2_Q8)
noncomputable def q_a113_0 : ev_H := (an592 : e2_Q8)
noncomputable def rs_a113 : e2_Rs := [((0, 0, 0), q_a113_0)]
noncomputable def s_a113 : e2_Sm := (61, as_a113, E_a113, f_a113, rs_a113)
noncomputable def S_a113 : List e2_Sm := []
noncomputable def I_a113 : List e2_In := [(43, 2, e2x_43), (44, 3, e2x_44)]
set_option maxRecDepth 1000000 in
theorem ck_a113 : e2_run (e2_cal S_a113 I_a113 4000 2) (e2_fin rs_a113) e2x_61 (fun _ => false) (fun _ _ _ _ _ => false) 4000 (e2_seek e2x_61 0) (e2_al 3 as_a113) [] E_a113 f_a113 = true := by decide +kernel
set_option maxRecDepth 1000000 in
theorem co_a113 : e2_okSB E_a113.length as_a113 f_a113 rs_a113 = true := by decide +kernel
theorem cs_a113 (hen : en_ok) (l : Launch) : e2_smOk l 3 s_a113 := e2_con0 (H := 0) (n := 2) (C := evd_61) (S := S_a113) (I := I_a113) (fuel := 4000) [] hen ei_61 e2_fz (e2_fa ein_43 (e2_fa ein_44 e2_fz)) (by decide) co_a113 ex2_61 ck_a113
/-! a114 X3_parseLevel -/
def as_a114 : List ev_V := [(2, 33, 0), (2, 27, 0), (0, 2, 0), (0, 7, 0)]
def E_a114 : e2_E := [(2147483648, 2147583648, 0, 0), (2147483652, 2147483668, 1, 0), (2147483648, 2147485248, 2, 0)]
noncomputable def f_a114 : ev_H := (an606 : e2_Q8)
noncomputable def q_a114_0 : ev_H := (an606 : e2_Q8)
noncomputable def rs_a114 : e2_Rs := [((11, 2147483648, 2147483649), q_a114_0)]
noncomputable def s_a114 : e2_Sm := (59, as_a114, E_a114, f_a114, rs_a114)
noncomputable def S_a114 : List e2_Sm := [s_a37, s_a112, s_a113]
noncomputable def I_a114 : List e2_In := [(19, 2, e2x_19), (20, 2, e2x_20), (60, 1, e2x_60)]
set_option maxRecDepth 1000000 in
theorem co_a114 : e2_okSB E_a114.length as_a114 f_a114 rs_a114 = true := by decide +kernel
def al_a114_0 : List ev_V := [(2, 33, 0), (2, 27, 0), (0, 2, 0), (0, 7, 0), (0, 1, 0), (1, 3, 4294967296), (9, 0, 0)]
def E_a114_0 : e2_E := [(2147483648, 2147583648, 0, 0), (2147483652, 2147483668, 1, 0), (2147483648, 2147485248, 2, 0), (2147483648, 2147483649, 3, 0)]
noncomputable def h_a114_0 : ev_H := (an606 : e2_Q8)
noncomputable def cl_a114_e : List (Nat × e2_S) := [(66, e2_cutL (al_a114_0.set 5 (11, 2147483648, 2147483649)) 3 (E_a114_0.take 3) h_a114_0)]
set_option maxRecDepth 1000000 in
theorem ck_a114_e : e2_run (e2_cal S_a114 I_a114 4000 2) (e2_fin rs_a114) e2x_59 (e2_bpL cl_a114_e) (e2_cutA cl_a114_e) 4000 (e2_seek e2x_59 0) (e2_al 7 as_a114) [] E_a114 f_a114 = true := by decide +kernel
noncomputable def cl_a114_0 : List (Nat × e2_S) := [(66, e2_cutL (al_a114_0.set 5 (13, 11, 2147483649)) 3 (E_a114_0.take 3) h_a114_0)]
set_option maxRecDepth 1000000 in
theorem ck_a114_0 : e2_runM (e2_cal S_a114 I_a114 4000 2) (e2_fin rs_a114) e2x_59 (e2_bpL cl_a114_0) (e2_cutA cl_a114_0) 4000 (e2_seek e2x_59 66) al_a114_0 [] E_a114_0 h_a114_0 = true := by decide +kernel
set_option maxRecDepth 1000000 in
theorem ci_a114_0 : e2_idl 3 (al_a114_0.set 5 (9, 0, 0)) = true := by decide +kernel
set_option maxRecDepth 1000000 in
theorem cj_a114_0 : e2_idh 3 8 h_a114_0 = true := by decide +kernel
theorem cs_a114 (hen : en_ok) (l : Launch) (hh : e2_hand_a l) : e2_smOk l 75 s_a114 := by
  refine e2_conG (H := 72) (n := 2) (C := evd_59) (S := S_a114) (I := I_a114) (fuel := 4000) hen ei_59 (e2_fa ((cs_a37 hen l hh).mono (by decide)) (e2_fa (cs_a112 hen l hh) (e2_fa ((cs_a113 hen l).mono (by decide)) e2_fz))) (e2_fa ein_19 (e2_fa ein_20 (e2_fa ein_60 e2_fz))) (by decide) co_a114 fun M d _ hC hcall p e R s m args below meth c Q D cA A ads r0 ha hl0 => ?_
  have L_0 : e2_gdM M p l e R s m args below meth c Q D cA A ads r0 66 al_a114_0 [] E_a114_0 h_a114_0 := by
    refine e2_indL (u := 3) (j := 5) (lo := 2147483648) (hi := 2147483649) (b := 3) (dd := 0) hl0 (by decide) rfl rfl (Or.inr ⟨rfl, rfl⟩) rfl ci_a114_0 cj_a114_0 ?_
    intro r_0 k_0 hk_0 hp_0 hs_0 hn_0
    have hl_0 : r_0.length ≤ 4 := hs_0.len rfl
    have ha_0 := ha.ext hp_0
    exact e2_fromM hen ha_0 hcall (e2_cutA_ok (e2_fa (fun al st E h hc => hn_0 al st E h hc) e2_fz)) (hC []) (X := e2x_59) ex2_59 66 ck_a114_0
  have EN_0 := e2_entL (u := 3) (j := 5) (lo := 2147483648) (hi := 2147483649) hl0 rfl rfl rfl ci_a114_0 cj_a114_0 L_0
  exact e2_from hen ha hcall (e2_cutA_ok (e2_fa (fun al st E h hc => EN_0 al st E h hc) e2_fz)) (hC []) (X := e2x_59) ex2_59 0 ck_a114_e
/-! a115 X3_parseLevel -/
def as_a115 : List ev_V := [(2, 33, 0), (2, 27, 0), (0, 1, 0), (0, 7, 0)]
def E_a115 : e2_E := [(2147483648, 2147583648, 0, 0), (2147483652, 2147483668, 1, 0), (2147483648, 2147485248, 2, 0)]
noncomputable def f_a115 : ev_H := (an606 : e2_Q8)
noncomputable def q_a115_0 : ev_H := (an606 : e2_Q8)
noncomputable def rs_a115 : e2_Rs := [((11, 2147483648, 2147483649), q_a115_0)]
noncomputable def s_a115 : e2_Sm := (59, as_a115, E_a115, f_a115, rs_a115)
noncomputable def S_a115 : List e2_Sm := [s_a37, s_a114]
noncomputable def I_a115 : List e2_In := [(19, 2, e2x_19), (20, 2, e2x_20), (60, 1, e2x_60)]
set_option maxRecDepth 1000000 in
theorem co_a115 : e2_okSB E_a115.length as_a115 f_a115 rs_a115 = true := by decide +kernel
def al_a115_0 : List ev_V := [(2, 33, 0), (2, 27, 0), (0, 1, 0), (0, 7, 0), (0, 30, 0), (1, 3, 4294967296), (9, 0, 0)]
def E_a115_0 : e2_E := [(2147483648, 2147583648, 0, 0), (2147483652, 2147483668, 1, 0), (2147483648, 2147485248, 2, 0), (2147483648, 2147483678, 3, 0)]
noncomputable def h_a115_0 : ev_H := (an606 : e2_Q8)
noncomputable def cl_a115_e : List (Nat × e2_S) := [(66, e2_cutL (al_a115_0.set 5 (11, 2147483648, 2147483678)) 3 (E_a115_0.take 3) h_a115_0)]
set_option maxRecDepth 1000000 in
theorem ck_a115_e : e2_run (e2_cal S_a115 I_a115 4000 2) (e2_fin rs_a115) e2x_59 (e2_bpL cl_a115_e) (e2_cutA cl_a115_e) 4000 (e2_seek e2x_59 0) (e2_al 7 as_a115) [] E_a115 f_a115 = true := by decide +kernel
noncomputable def cl_a115_0 : List (Nat × e2_S) := [(66, e2_cutL (al_a115_0.set 5 (13, 11, 2147483678)) 3 (E_a115_0.take 3) h_a115_0)]
set_option maxRecDepth 1000000 in
theorem ck_a115_0 : e2_runM (e2_cal S_a115 I_a115 4000 2) (e2_fin rs_a115) e2x_59 (e2_bpL cl_a115_0) (e2_cutA cl_a115_0) 4000 (e2_seek e2x_59 66) al_a115_0 [] E_a115_0 h_a115_0 = true := by decide +kernel
set_option maxRecDepth 1000000 in
theorem ci_a115_0 : e2_idl 3 (al_a115_0.set 5 (9, 0, 0)) = true := by decide +kernel
set_option maxRecDepth 1000000 in
theorem cj_a115_0 : e2_idh 3 8 h_a115_0 = true := by decide +kernel
theorem cs_a115 (hen : en_ok) (l : Launch) (hh : e2_hand_a l) : e2_smOk l 78 s_a115 := by
  refine e2_conG (H := 75) (n := 2) (C := evd_59) (S := S_a115) (I := I_a115) (fuel := 4000) hen ei_59 (e2_fa ((cs_a37 hen l hh).mono (by decide)) (e2_fa (cs_a114 hen l hh) e2_fz)) (e2_fa ein_19 (e2_fa ein_20 (e2_fa ein_60 e2_fz))) (by decide) co_a115 fun M d _ hC hcall p e R s m args below meth c Q D cA A ads r0 ha hl0 => ?_
  have L_0 : e2_gdM M p l e R s m args below meth c Q D cA A ads r0 66 al_a115_0 [] E_a115_0 h_a115_0 := by
    refine e2_indL (u := 3) (j := 5) (lo := 2147483648) (hi := 2147483678) (b := 3) (dd := 0) hl0 (by decide) rfl rfl (Or.inr ⟨rfl, rfl⟩) rfl ci_a115_0 cj_a115_0 ?_
    intro r_0 k_0 hk_0 hp_0 hs_0 hn_0
    have hl_0 : r_0.length ≤ 4 := hs_0.len rfl
    have ha_0 := ha.ext hp_0
    exact e2_fromM hen ha_0 hcall (e2_cutA_ok (e2_fa (fun al st E h hc => hn_0 al st E h hc) e2_fz)) (hC []) (X := e2x_59) ex2_59 66 ck_a115_0
  have EN_0 := e2_entL (u := 3) (j := 5) (lo := 2147483648) (hi := 2147483678) hl0 rfl rfl rfl ci_a115_0 cj_a115_0 L_0
  exact e2_from hen ha hcall (e2_cutA_ok (e2_fa (fun al st E h hc => EN_0 al st E h hc) e2_fz)) (hC []) (X := e2x_59) ex2_59 0 ck_a115_e
/-! a116 X3_parseLevel -/
def as_a116 : List ev_V := [(2, 33, 0), (2, 27, 0), (0, 0, 0), (0, 7, 0)]
def E_a116 : e2_E := [(2147483648, 2147583648, 0, 0), (2147483652, 2147483668, 1, 0), (2147483648, 2147485248, 2, 0)]
noncomputable def f_a116 : ev_H := (an606 : e2_Q8)
noncomputable def q_a116_0 : ev_H := (an606 : e2_Q8)
noncomputable def rs_a116 : e2_Rs := [((11, 2147483648, 2147483649), q_a116_0)]
noncomputable def s_a116 : e2_Sm := (59, as_a116, E_a116, f_a116, rs_a116)
noncomputable def S_a116 : List e2_Sm := [s_a37, s_a115]
noncomputable def I_a116 : List e2_In := [(19, 2, e2x_19), (20, 2, e2x_20), (60, 1, e2x_60)]
set_option maxRecDepth 1000000 in
theorem co_a116 : e2_okSB E_a116.length as_a116 f_a116 rs_a116 = true := by decide +kernel
def al_a116_0 : List ev_V := [(2, 33, 0), (2, 27, 0), (0, 0, 0), (0, 7, 0), (0, 30, 0), (1, 3, 4294967296), (9, 0, 0)]
def E_a116_0 : e2_E := [(2147483648, 2147583648, 0, 0), (2147483652, 2147483668, 1, 0), (2147483648, 2147485248, 2, 0), (2147483648, 2147483678, 3, 0)]
noncomputable def h_a116_0 : ev_H := (an606 : e2_Q8)
noncomputable def cl_a116_e : List (Nat × e2_S) := [(66, e2_cutL (al_a116_0.set 5 (11, 2147483648, 2147483678)) 3 (E_a116_0.take 3) h_a116_0)]
set_option maxRecDepth 1000000 in
theorem ck_a116_e : e2_run (e2_cal S_a116 I_a116 4000 2) (e2_fin rs_a116) e2x_59 (e2_bpL cl_a116_e) (e2_cutA cl_a116_e) 4000 (e2_seek e2x_59 0) (e2_al 7 as_a116) [] E_a116 f_a116 = true := by decide +kernel
noncomputable def cl_a116_0 : List (Nat × e2_S) := [(66, e2_cutL (al_a116_0.set 5 (13, 11, 2147483678)) 3 (E_a116_0.take 3) h_a116_0)]
set_option maxRecDepth 1000000 in
theorem ck_a116_0 : e2_runM (e2_cal S_a116 I_a116 4000 2) (e2_fin rs_a116) e2x_59 (e2_bpL cl_a116_0) (e2_cutA cl_a116_0) 4000 (e2_seek e2x_59 66) al_a116_0 [] E_a116_0 h_a116_0 = true := by decide +kernel
set_option maxRecDepth 1000000 in
theorem ci_a116_0 : e2_idl 3 (al_a116_0.set 5 (9, 0, 0)) = true := by decide +kernel
set_option maxRecDepth 1000000 in
theorem cj_a116_0 : e2_idh 3 8 h_a116_0 = true := by decide +kernel
theorem cs_a116 (hen : en_ok) (l : Launch) (hh : e2_hand_a l) : e2_smOk l 81 s_a116 := by
  refine e2_conG (H := 78) (n := 2) (C := evd_59) (S := S_a116) (I := I_a116) (fuel := 4000) hen ei_59 (e2_fa ((cs_a37 hen l hh).mono (by decide)) (e2_fa (cs_a115 hen l hh) e2_fz)) (e2_fa ein_19 (e2_fa ein_20 (e2_fa ein_60 e2_fz))) (by decide) co_a116 fun M d _ hC hcall p e R s m args below meth c Q D cA A ads r0 ha hl0 => ?_
  have L_0 : e2_gdM M p l e R s m args below meth c Q D cA A ads r0 66 al_a116_0 [] E_a116_0 h_a116_0 := by
    refine e2_indL (u := 3) (j := 5) (lo := 2147483648) (hi := 2147483678) (b := 3) (dd := 0) hl0 (by decide) rfl rfl (Or.inr ⟨rfl, rfl⟩) rfl ci_a116_0 cj_a116_0 ?_
    intro r_0 k_0 hk_0 hp_0 hs_0 hn_0
    have hl_0 : r_0.length ≤ 4 := hs_0.len rfl
    have ha_0 := ha.ext hp_0
    exact e2_fromM hen ha_0 hcall (e2_cutA_ok (e2_fa (fun al st E h hc => hn_0 al st E h hc) e2_fz)) (hC []) (X := e2x_59) ex2_59 66 ck_a116_0
  have EN_0 := e2_entL (u := 3) (j := 5) (lo := 2147483648) (hi := 2147483678) hl0 rfl rfl rfl ci_a116_0 cj_a116_0 L_0
  exact e2_from hen ha hcall (e2_cutA_ok (e2_fa (fun al st E h hc => EN_0 al st E h hc) e2_fz)) (hC []) (X := e2x_59) ex2_59 0 ck_a116_e
/-! a117 X3_parseUnit -/
def as_a117 : List ev_V := [(2, 33, 0), (2, 27, 0), (0, 6, 0)]
def E_a117 : e2_E := [(2147483648, 2147583648, 0, 0), (2147483652, 2147483668, 1, 0), (2147483648, 2147485248, 2, 0)]
noncomputable def f_a117 : ev_H := (an606 : e2_Q8)
noncomputable def q_a117_0 : ev_H := (an606 : e2_Q8)
noncomputable def rs_a117 : e2_Rs := [((11, 2147483648, 2147483649), q_a117_0)]
noncomputable def s_a117 : e2_Sm := (62, as_a117, E_a117, f_a117, rs_a117)
noncomputable def S_a117 : List e2_Sm := [s_a37, s_a38, s_a116]
noncomputable def I_a117 : List e2_In := [(18, 2, e2x_18), (19, 2, e2x_19), (20, 2, e2x_20), (43, 2, e2x_43), (44, 3, e2x_44)]
set_option maxRecDepth 1000000 in
theorem ck_a117 : e2_run (e2_cal S_a117 I_a117 4000 2) (e2_fin rs_a117) e2x_62 (fun _ => false) (fun _ _ _ _ _ => false) 4000 (e2_seek e2x_62 0) (e2_al 7 as_a117) [] E_a117 f_a117 = true := by decide +kernel
set_option maxRecDepth 1000000 in
theorem co_a117 : e2_okSB E_a117.length as_a117 f_a117 rs_a117 = true := by decide +kernel
theorem cs_a117 (hen : en_ok) (l : Launch) (hh : e2_hand_a l) : e2_smOk l 84 s_a117 := e2_con0 (H := 81) (n := 2) (C := evd_62) (S := S_a117) (I := I_a117) (fuel := 4000) [] hen ei_62 (e2_fa ((cs_a37 hen l hh).mono (by decide)) (e2_fa ((cs_a38 hen l hh).mono (by decide)) (e2_fa (cs_a116 hen l hh) e2_fz))) (e2_fa ein_18 (e2_fa ein_19 (e2_fa ein_20 (e2_fa ein_43 (e2_fa ein_44 e2_fz))))) (by decide) co_a117 ex2_62 ck_a117
/-! a118 X3_parseLevel -/
def as_a118 : List ev_V := [(2, 33, 0), (2, 27, 0), (0, 5, 0), (0, 6, 0)]
def E_a118 : e2_E := [(2147483648, 2147583648, 0, 0), (2147483652, 2147483668, 1, 0), (2147483648, 2147485248, 2, 0)]
noncomputable def f_a118 : ev_H := (an606 : e2_Q8)
noncomputable def q_a118_0 : ev_H := (an606 : e2_Q8)
noncomputable def rs_a118 : e2_Rs := [((11, 2147483648, 2147483649), q_a118_0)]
noncomputable def s_a118 : e2_Sm := (59, as_a118, E_a118, f_a118, rs_a118)
noncomputable def S_a118 : List e2_Sm := [s_a117]
noncomputable def I_a118 : List e2_In := []
set_option maxRecDepth 1000000 in
theorem ck_a118 : e2_run (e2_cal S_a118 I_a118 4000 0) (e2_fin rs_a118) e2x_59 (fun _ => false) (fun _ _ _ _ _ => false) 4000 (e2_seek e2x_59 0) (e2_al 7 as_a118) [] E_a118 f_a118 = true := by decide +kernel
set_option maxRecDepth 1000000 in
theorem co_a118 : e2_okSB E_a118.length as_a118 f_a118 rs_a118 = true := by decide +kernel
theorem cs_a118 (hen : en_ok) (l : Launch) (hh : e2_hand_a l) : e2_smOk l 85 s_a118 := e2_con0 (H := 84) (n := 0) (C := evd_59) (S := S_a118) (I := I_a118) (fuel := 4000) [] hen ei_59 (e2_fa (cs_a117 hen l hh) e2_fz) e2_fz (by decide) co_a118 ex2_59 ck_a118
/-! a119 X3_parseLevel -/
def as_a119 : List ev_V := [(2, 33, 0), (2, 27, 0), (0, 4, 0), (0, 6, 0)]
def E_a119 : e2_E := [(2147483648, 2147583648, 0, 0), (2147483652, 2147483668, 1, 0), (2147483648, 2147485248, 2, 0)]
noncomputable def f_a119 : ev_H := (an606 : e2_Q8)
noncomputable def q_a119_0 : ev_H := (an606 : e2_Q8)
noncomputable def rs_a119 : e2_Rs := [((11, 2147483648, 2147483649), q_a119_0)]
noncomputable def s_a119 : e2_Sm := (59, as_a119, E_a119, f_a119, rs_a119)
noncomputable def S_a119 : List e2_Sm := [s_a37, s_a118]
noncomputable def I_a119 : List e2_In := [(19, 2, e2x_19), (20, 2, e2x_20), (60, 1, e2x_60)]
set_option maxRecDepth 1000000 in
theorem co_a119 : e2_okSB E_a119.length as_a119 f_a119 rs_a119 = true := by decide +kernel
def al_a119_0 : List ev_V := [(2, 33, 0), (2, 27, 0), (0, 4, 0), (0, 6, 0), (0, 30, 0), (1, 3, 4294967296), (9, 0, 0)]
def E_a119_0 : e2_E := [(2147483648, 2147583648, 0, 0), (2147483652, 2147483668, 1, 0), (2147483648, 2147485248, 2, 0), (2147483648, 2147483678, 3, 0)]
noncomputable def h_a119_0 : ev_H := (an606 : e2_Q8)
noncomputable def cl_a119_e : List (Nat × e2_S) := [(66, e2_cutL (al_a119_0.set 5 (11, 2147483648, 2147483678)) 3 (E_a119_0.take 3) h_a119_0)]
set_option maxRecDepth 1000000 in
theorem ck_a119_e : e2_run (e2_cal S_a119 I_a119 4000 2) (e2_fin rs_a119) e2x_59 (e2_bpL cl_a119_e) (e2_cutA cl_a119_e) 4000 (e2_seek e2x_59 0) (e2_al 7 as_a119) [] E_a119 f_a119 = true := by decide +kernel
noncomputable def cl_a119_0 : List (Nat × e2_S) := [(66, e2_cutL (al_a119_0.set 5 (13, 11, 2147483678)) 3 (E_a119_0.take 3) h_a119_0)]
set_option maxRecDepth 1000000 in
theorem ck_a119_0 : e2_runM (e2_cal S_a119 I_a119 4000 2) (e2_fin rs_a119) e2x_59 (e2_bpL cl_a119_0) (e2_cutA cl_a119_0) 4000 (e2_seek e2x_59 66) al_a119_0 [] E_a119_0 h_a119_0 = true := by decide +kernel
set_option maxRecDepth 1000000 in
theorem ci_a119_0 : e2_idl 3 (al_a119_0.set 5 (9, 0, 0)) = true := by decide +kernel
set_option maxRecDepth 1000000 in
theorem cj_a119_0 : e2_idh 3 8 h_a119_0 = true := by decide +kernel
theorem cs_a119 (hen : en_ok) (l : Launch) (hh : e2_hand_a l) : e2_smOk l 88 s_a119 := by
  refine e2_conG (H := 85) (n := 2) (C := evd_59) (S := S_a119) (I := I_a119) (fuel := 4000) hen ei_59 (e2_fa ((cs_a37 hen l hh).mono (by decide)) (e2_fa (cs_a118 hen l hh) e2_fz)) (e2_fa ein_19 (e2_fa ein_20 (e2_fa ein_60 e2_fz))) (by decide) co_a119 fun M d _ hC hcall p e R s m args below meth c Q D cA A ads r0 ha hl0 => ?_
  have L_0 : e2_gdM M p l e R s m args below meth c Q D cA A ads r0 66 al_a119_0 [] E_a119_0 h_a119_0 := by
    refine e2_indL (u := 3) (j := 5) (lo := 2147483648) (hi := 2147483678) (b := 3) (dd := 0) hl0 (by decide) rfl rfl (Or.inr ⟨rfl, rfl⟩) rfl ci_a119_0 cj_a119_0 ?_
    intro r_0 k_0 hk_0 hp_0 hs_0 hn_0
    have hl_0 : r_0.length ≤ 4 := hs_0.len rfl
    have ha_0 := ha.ext hp_0
    exact e2_fromM hen ha_0 hcall (e2_cutA_ok (e2_fa (fun al st E h hc => hn_0 al st E h hc) e2_fz)) (hC []) (X := e2x_59) ex2_59 66 ck_a119_0
  have EN_0 := e2_entL (u := 3) (j := 5) (lo := 2147483648) (hi := 2147483678) hl0 rfl rfl rfl ci_a119_0 cj_a119_0 L_0
  exact e2_from hen ha hcall (e2_cutA_ok (e2_fa (fun al st E h hc => EN_0 al st E h hc) e2_fz)) (hC []) (X := e2x_59) ex2_59 0 ck_a119_e
/-! a120 X3_parseLevel -/
def as_a120 : List ev_V := [(2, 33, 0), (2, 27, 0), (0, 3, 0), (0, 6, 0)]
def E_a120 : e2_E := [(2147483648, 2147583648, 0, 0), (2147483652, 2147483668, 1, 0), (2147483648, 2147485248, 2, 0)]
noncomputable def f_a120 : ev_H := (an606 : e2_Q8)
noncomputable def q_a120_0 : ev_H := (an606 : e2_Q8)
noncomputable def rs_a120 : e2_Rs := [((11, 2147483648, 2147483649), q_a120_0)]
noncomputable def s_a120 : e2_Sm := (59, as_a120, E_a120, f_a120, rs_a120)
noncomputable def S_a120 : List e2_Sm := [s_a37, s_a119]
noncomputable def I_a120 : List e2_In := [(19, 2, e2x_19), (20, 2, e2x_20), (60, 1, e2x_60)]
set_option maxRecDepth 1000000 in
theorem co_a120 : e2_okSB E_a120.length as_a120 f_a120 rs_a120 = true := by decide +kernel
def al_a120_0 : List ev_V := [(2, 33, 0), (2, 27, 0), (0, 3, 0), (0, 6, 0), (0, 30, 0), (1, 3, 4294967296), (9, 0, 0)]
def E_a120_0 : e2_E := [(2147483648, 2147583648, 0, 0), (2147483652, 2147483668, 1, 0), (2147483648, 2147485248, 2, 0), (2147483648, 2147483678, 3, 0)]
noncomputable def h_a120_0 : ev_H := (an606 : e2_Q8)
noncomputable def cl_a120_e : List (Nat × e2_S) := [(66, e2_cutL (al_a120_0.set 5 (11, 2147483648, 2147483678)) 3 (E_a120_0.take 3) h_a120_0)]
set_option maxRecDepth 1000000 in
theorem ck_a120_e : e2_run (e2_cal S_a120 I_a120 4000 2) (e2_fin rs_a120) e2x_59 (e2_bpL cl_a120_e) (e2_cutA cl_a120_e) 4000 (e2_seek e2x_59 0) (e2_al 7 as_a120) [] E_a120 f_a120 = true := by decide +kernel
noncomputable def cl_a120_0 : List (Nat × e2_S) := [(66, e2_cutL (al_a120_0.set 5 (13, 11, 2147483678)) 3 (E_a120_0.take 3) h_a120_0)]
set_option maxRecDepth 1000000 in
theorem ck_a120_0 : e2_runM (e2_cal S_a120 I_a120 4000 2) (e2_fin rs_a120) e2x_59 (e2_bpL cl_a120_0) (e2_cutA cl_a120_0) 4000 (e2_seek e2x_59 66) al_a120_0 [] E_a120_0 h_a120_0 = true := by decide +kernel
set_option maxRecDepth 1000000 in
theorem ci_a120_0 : e2_idl 3 (al_a120_0.set 5 (9, 0, 0)) = true := by decide +kernel
set_option maxRecDepth 1000000 in
theorem cj_a120_0 : e2_idh 3 8 h_a120_0 = true := by decide +kernel
theorem cs_a120 (hen : en_ok) (l : Launch) (hh : e2_hand_a l) : e2_smOk l 91 s_a120 := by
  refine e2_conG (H := 88) (n := 2) (C := evd_59) (S := S_a120) (I := I_a120) (fuel := 4000) hen ei_59 (e2_fa ((cs_a37 hen l hh).mono (by decide)) (e2_fa (cs_a119 hen l hh) e2_fz)) (e2_fa ein_19 (e2_fa ein_20 (e2_fa ein_60 e2_fz))) (by decide) co_a120 fun M d _ hC hcall p e R s m args below meth c Q D cA A ads r0 ha hl0 => ?_
  have L_0 : e2_gdM M p l e R s m args below meth c Q D cA A ads r0 66 al_a120_0 [] E_a120_0 h_a120_0 := by
    refine e2_indL (u := 3) (j := 5) (lo := 2147483648) (hi := 2147483678) (b := 3) (dd := 0) hl0 (by decide) rfl rfl (Or.inr ⟨rfl, rfl⟩) rfl ci_a120_0 cj_a120_0 ?_
    intro r_0 k_0 hk_0 hp_0 hs_0 hn_0
    have hl_0 : r_0.length ≤ 4 := hs_0.len rfl
    have ha_0 := ha.ext hp_0
    exact e2_fromM hen ha_0 hcall (e2_cutA_ok (e2_fa (fun al st E h hc => hn_0 al st E h hc) e2_fz)) (hC []) (X := e2x_59) ex2_59 66 ck_a120_0
  have EN_0 := e2_entL (u := 3) (j := 5) (lo := 2147483648) (hi := 2147483678) hl0 rfl rfl rfl ci_a120_0 cj_a120_0 L_0
  exact e2_from hen ha hcall (e2_cutA_ok (e2_fa (fun al st E h hc => EN_0 al st E h hc) e2_fz)) (hC []) (X := e2x_59) ex2_59 0 ck_a120_e
/-! a121 X3_parseNot -/
def as_a121 : List ev_V := [(2, 33, 0), (2, 27, 0), (0, 6, 0)]
def E_a121 : e2_E := [(2147483648, 2147583648, 0, 0), (2147483652, 2147483668, 1, 0), (2147483648, 2147485248, 2, 0)]
noncomputable def f_a121 : ev_H := (an606 : e2_Q8)
noncomputable def q_a121_0 : ev_H := (an606 : e2_Q8)
noncomputable def rs_a121 : e2_Rs := [((11, 2147483648, 2147483649), q_a121_0)]
noncomputable def s_a121 : e2_Sm := (61, as_a121, E_a121, f_a121, rs_a121)
noncomputable def S_a121 : List e2_Sm := [s_a37, s_a114]
noncomputable def I_a121 : List e2_In := [(19, 2, e2x_19), (20, 2, e2x_20)]
set_option maxRecDepth 1000000 in
theorem ck_a121 : e2_run (e2_cal S_a121 I_a121 4000 2) (e2_fin rs_a121) e2x_61 (fun _ => false) (fun _ _ _ _ _ => false) 4000 (e2_seek e2x_61 0) (e2_al 3 as_a121) [] E_a121 f_a121 = true := by decide +kernel
set_option maxRecDepth 1000000 in
theorem co_a121 : e2_okSB E_a121.length as_a121 f_a121 rs_a121 = true := by decide +kernel
theorem cs_a121 (hen : en_ok) (l : Launch) (hh : e2_hand_a l) : e2_smOk l 78 s_a121 := e2_con0 (H := 75) (n := 2) (C := evd_61) (S := S_a121) (I := I_a121) (fuel := 4000) [] hen ei_61 (e2_fa ((cs_a37 hen l hh).mono (by decide)) (e2_fa (cs_a114 hen l hh) e2_fz)) (e2_fa ein_19 (e2_fa ein_20 e2_fz)) (by decide) co_a121 ex2_61 ck_a121
/-! a122 X3_parseLevel -/
def as_a122 : List ev_V := [(2, 33, 0), (2, 27, 0), (0, 2, 0), (0, 6, 0)]
def E_a122 : e2_E := [(2147483648, 2147583648, 0, 0), (2147483652, 2147483668, 1, 0), (2147483648, 2147485248, 2, 0)]
noncomputable def f_a122 : ev_H := (an606 : e2_Q8)
noncomputable def q_a122_0 : ev_H := (an606 : e2_Q8)
noncomputable def rs_a122 : e2_Rs := [((11, 2147483648, 2147483649), q_a122_0)]
noncomputable def s_a122 : e2_Sm := (59, as_a122, E_a122, f_a122, rs_a122)
noncomputable def S_a122 : List e2_Sm := [s_a37, s_a120, s_a121]
noncomputable def I_a122 : List e2_In := [(19, 2, e2x_19), (20, 2, e2x_20), (60, 1, e2x_60)]
set_option maxRecDepth 1000000 in
theorem co_a122 : e2_okSB E_a122.length as_a122 f_a122 rs_a122 = true := by decide +kernel
def al_a122_0 : List ev_V := [(2, 33, 0), (2, 27, 0), (0, 2, 0), (0, 6, 0), (0, 1, 0), (1, 3, 4294967296), (9, 0, 0)]
def E_a122_0 : e2_E := [(2147483648, 2147583648, 0, 0), (2147483652, 2147483668, 1, 0), (2147483648, 2147485248, 2, 0), (2147483648, 2147483649, 3, 0)]
noncomputable def h_a122_0 : ev_H := (an606 : e2_Q8)
noncomputable def cl_a122_e : List (Nat × e2_S) := [(66, e2_cutL (al_a122_0.set 5 (11, 2147483648, 2147483649)) 3 (E_a122_0.take 3) h_a122_0)]
set_option maxRecDepth 1000000 in
theorem ck_a122_e : e2_run (e2_cal S_a122 I_a122 4000 2) (e2_fin rs_a122) e2x_59 (e2_bpL cl_a122_e) (e2_cutA cl_a122_e) 4000 (e2_seek e2x_59 0) (e2_al 7 as_a122) [] E_a122 f_a122 = true := by decide +kernel
noncomputable def cl_a122_0 : List (Nat × e2_S) := [(66, e2_cutL (al_a122_0.set 5 (13, 11, 2147483649)) 3 (E_a122_0.take 3) h_a122_0)]
set_option maxRecDepth 1000000 in
theorem ck_a122_0 : e2_runM (e2_cal S_a122 I_a122 4000 2) (e2_fin rs_a122) e2x_59 (e2_bpL cl_a122_0) (e2_cutA cl_a122_0) 4000 (e2_seek e2x_59 66) al_a122_0 [] E_a122_0 h_a122_0 = true := by decide +kernel
set_option maxRecDepth 1000000 in
theorem ci_a122_0 : e2_idl 3 (al_a122_0.set 5 (9, 0, 0)) = true := by decide +kernel
set_option maxRecDepth 1000000 in
theorem cj_a122_0 : e2_idh 3 8 h_a122_0 = true := by decide +kernel
theorem cs_a122 (hen : en_ok) (l : Launch) (hh : e2_hand_a l) : e2_smOk l 94 s_a122 := by
  refine e2_conG (H := 91) (n := 2) (C := evd_59) (S := S_a122) (I := I_a122) (fuel := 4000) hen ei_59 (e2_fa ((cs_a37 hen l hh).mono (by decide)) (e2_fa (cs_a120 hen l hh) (e2_fa ((cs_a121 hen l hh).mono (by decide)) e2_fz))) (e2_fa ein_19 (e2_fa ein_20 (e2_fa ein_60 e2_fz))) (by decide) co_a122 fun M d _ hC hcall p e R s m args below meth c Q D cA A ads r0 ha hl0 => ?_
  have L_0 : e2_gdM M p l e R s m args below meth c Q D cA A ads r0 66 al_a122_0 [] E_a122_0 h_a122_0 := by
    refine e2_indL (u := 3) (j := 5) (lo := 2147483648) (hi := 2147483649) (b := 3) (dd := 0) hl0 (by decide) rfl rfl (Or.inr ⟨rfl, rfl⟩) rfl ci_a122_0 cj_a122_0 ?_
    intro r_0 k_0 hk_0 hp_0 hs_0 hn_0
    have hl_0 : r_0.length ≤ 4 := hs_0.len rfl
    have ha_0 := ha.ext hp_0
    exact e2_fromM hen ha_0 hcall (e2_cutA_ok (e2_fa (fun al st E h hc => hn_0 al st E h hc) e2_fz)) (hC []) (X := e2x_59) ex2_59 66 ck_a122_0
  have EN_0 := e2_entL (u := 3) (j := 5) (lo := 2147483648) (hi := 2147483649) hl0 rfl rfl rfl ci_a122_0 cj_a122_0 L_0
  exact e2_from hen ha hcall (e2_cutA_ok (e2_fa (fun al st E h hc => EN_0 al st E h hc) e2_fz)) (hC []) (X := e2x_59) ex2_59 0 ck_a122_e
/-! a123 X3_parseLevel -/
def as_a123 : List ev_V := [(2, 33, 0), (2, 27, 0), (0, 1, 0), (0, 6, 0)]
def E_a123 : e2_E := [(2147483648, 2147583648, 0, 0), (2147483652, 2147483668, 1, 0), (2147483648, 2147485248, 2, 0)]
noncomputable def f_a123 : ev_H := (an606 : e2_Q8)
noncomputable def q_a123_0 : ev_H := (an606 : e2_Q8)
noncomputable def rs_a123 : e2_Rs := [((11, 2147483648, 2147483649), q_a123_0)]
noncomputable def s_a123 : e2_Sm := (59, as_a123, E_a123, f_a123, rs_a123)
noncomputable def S_a123 : List e2_Sm := [s_a37, s_a122]
noncomputable def I_a123 : List e2_In := [(19, 2, e2x_19), (20, 2, e2x_20), (60, 1, e2x_60)]
set_option maxRecDepth 1000000 in
theorem co_a123 : e2_okSB E_a123.length as_a123 f_a123 rs_a123 = true := by decide +kernel
def al_a123_0 : List ev_V := [(2, 33, 0), (2, 27, 0), (0, 1, 0), (0, 6, 0), (0, 30, 0), (1, 3, 4294967296), (9, 0, 0)]
def E_a123_0 : e2_E := [(2147483648, 2147583648, 0, 0), (2147483652, 2147483668, 1, 0), (2147483648, 2147485248, 2, 0), (2147483648, 2147483678, 3, 0)]
noncomputable def h_a123_0 : ev_H := (an606 : e2_Q8)
noncomputable def cl_a123_e : List (Nat × e2_S) := [(66, e2_cutL (al_a123_0.set 5 (11, 2147483648, 2147483678)) 3 (E_a123_0.take 3) h_a123_0)]
set_option maxRecDepth 1000000 in
theorem ck_a123_e : e2_run (e2_cal S_a123 I_a123 4000 2) (e2_fin rs_a123) e2x_59 (e2_bpL cl_a123_e) (e2_cutA cl_a123_e) 4000 (e2_seek e2x_59 0) (e2_al 7 as_a123) [] E_a123 f_a123 = true := by decide +kernel
noncomputable def cl_a123_0 : List (Nat × e2_S) := [(66, e2_cutL (al_a123_0.set 5 (13, 11, 2147483678)) 3 (E_a123_0.take 3) h_a123_0)]
set_option maxRecDepth 1000000 in
theorem ck_a123_0 : e2_runM (e2_cal S_a123 I_a123 4000 2) (e2_fin rs_a123) e2x_59 (e2_bpL cl_a123_0) (e2_cutA cl_a123_0) 4000 (e2_seek e2x_59 66) al_a123_0 [] E_a123_0 h_a123_0 = true := by decide +kernel
set_option maxRecDepth 1000000 in
theorem ci_a123_0 : e2_idl 3 (al_a123_0.set 5 (9, 0, 0)) = true := by decide +kernel
set_option maxRecDepth 1000000 in
theorem cj_a123_0 : e2_idh 3 8 h_a123_0 = true := by decide +kernel
theorem cs_a123 (hen : en_ok) (l : Launch) (hh : e2_hand_a l) : e2_smOk l 97 s_a123 := by
  refine e2_conG (H := 94) (n := 2) (C := evd_59) (S := S_a123) (I := I_a123) (fuel := 4000) hen ei_59 (e2_fa ((cs_a37 hen l hh).mono (by decide)) (e2_fa (cs_a122 hen l hh) e2_fz)) (e2_fa ein_19 (e2_fa ein_20 (e2_fa ein_60 e2_fz))) (by decide) co_a123 fun M d _ hC hcall p e R s m args below meth c Q D cA A ads r0 ha hl0 => ?_
  have L_0 : e2_gdM M p l e R s m args below meth c Q D cA A ads r0 66 al_a123_0 [] E_a123_0 h_a123_0 := by
    refine e2_indL (u := 3) (j := 5) (lo := 2147483648) (hi := 2147483678) (b := 3) (dd := 0) hl0 (by decide) rfl rfl (Or.inr ⟨rfl, rfl⟩) rfl ci_a123_0 cj_a123_0 ?_
    intro r_0 k_0 hk_0 hp_0 hs_0 hn_0
    have hl_0 : r_0.length ≤ 4 := hs_0.len rfl
    have ha_0 := ha.ext hp_0
    exact e2_fromM hen ha_0 hcall (e2_cutA_ok (e2_fa (fun al st E h hc => hn_0 al st E h hc) e2_fz)) (hC []) (X := e2x_59) ex2_59 66 ck_a123_0
  have EN_0 := e2_entL (u := 3) (j := 5) (lo := 2147483648) (hi := 2147483678) hl0 rfl rfl rfl ci_a123_0 cj_a123_0 L_0
  exact e2_from hen ha hcall (e2_cutA_ok (e2_fa (fun al st E h hc => EN_0 al st E h hc) e2_fz)) (hC []) (X := e2x_59) ex2_59 0 ck_a123_e
/-! a124 X3_parseLevel -/
def as_a124 : List ev_V := [(2, 33, 0), (2, 27, 0), (0, 0, 0), (0, 6, 0)]
def E_a124 : e2_E := [(2147483648, 2147583648, 0, 0), (2147483652, 2147483668, 1, 0), (2147483648, 2147485248, 2, 0)]
noncomputable def f_a124 : ev_H := (an606 : e2_Q8)
noncomputable def q_a124_0 : ev_H := (an606 : e2_Q8)
noncomputable def rs_a124 : e2_Rs := [((11, 2147483648, 2147483649), q_a124_0)]
noncomputable def s_a124 : e2_Sm := (59, as_a124, E_a124, f_a124, rs_a124)
noncomputable def S_a124 : List e2_Sm := [s_a37, s_a123]
noncomputable def I_a124 : List e2_In := [(19, 2, e2x_19), (20, 2, e2x_20), (60, 1, e2x_60)]
set_option maxRecDepth 1000000 in
theorem co_a124 : e2_okSB E_a124.length as_a124 f_a124 rs_a124 = true := by decide +kernel
def al_a124_0 : List ev_V := [(2, 33, 0), (2, 27, 0), (0, 0, 0), (0, 6, 0), (0, 30, 0), (1, 3, 4294967296), (9, 0, 0)]
def E_a124_0 : e2_E := [(2147483648, 2147583648, 0, 0), (2147483652, 2147483668, 1, 0), (2147483648, 2147485248, 2, 0), (2147483648, 2147483678, 3, 0)]
noncomputable def h_a124_0 : ev_H := (an606 : e2_Q8)
noncomputable def cl_a124_e : List (Nat × e2_S) := [(66, e2_cutL (al_a124_0.set 5 (11, 2147483648, 2147483678)) 3 (E_a124_0.take 3) h_a124_0)]
set_option maxRecDepth 1000000 in
theorem ck_a124_e : e2_run (e2_cal S_a124 I_a124 4000 2) (e2_fin rs_a124) e2x_59 (e2_bpL cl_a124_e) (e2_cutA cl_a124_e) 4000 (e2_seek e2x_59 0) (e2_al 7 as_a124) [] E_a124 f_a124 = true := by decide +kernel
noncomputable def cl_a124_0 : List (Nat × e2_S) := [(66, e2_cutL (al_a124_0.set 5 (13, 11, 2147483678)) 3 (E_a124_0.take 3) h_a124_0)]
set_option maxRecDepth 1000000 in
theorem ck_a124_0 : e2_runM (e2_cal S_a124 I_a124 4000 2) (e2_fin rs_a124) e2x_59 (e2_bpL cl_a124_0) (e2_cutA cl_a124_0) 4000 (e2_seek e2x_59 66) al_a124_0 [] E_a124_0 h_a124_0 = true := by decide +kernel
set_option maxRecDepth 1000000 in
theorem ci_a124_0 : e2_idl 3 (al_a124_0.set 5 (9, 0, 0)) = true := by decide +kernel
set_option maxRecDepth 1000000 in
theorem cj_a124_0 : e2_idh 3 8 h_a124_0 = true := by decide +kernel
theorem cs_a124 (hen : en_ok) (l : Launch) (hh : e2_hand_a l) : e2_smOk l 100 s_a124 := by
  refine e2_conG (H := 97) (n := 2) (C := evd_59) (S := S_a124) (I := I_a124) (fuel := 4000) hen ei_59 (e2_fa ((cs_a37 hen l hh).mono (by decide)) (e2_fa (cs_a123 hen l hh) e2_fz)) (e2_fa ein_19 (e2_fa ein_20 (e2_fa ein_60 e2_fz))) (by decide) co_a124 fun M d _ hC hcall p e R s m args below meth c Q D cA A ads r0 ha hl0 => ?_
  have L_0 : e2_gdM M p l e R s m args below meth c Q D cA A ads r0 66 al_a124_0 [] E_a124_0 h_a124_0 := by
    refine e2_indL (u := 3) (j := 5) (lo := 2147483648) (hi := 2147483678) (b := 3) (dd := 0) hl0 (by decide) rfl rfl (Or.inr ⟨rfl, rfl⟩) rfl ci_a124_0 cj_a124_0 ?_
    intro r_0 k_0 hk_0 hp_0 hs_0 hn_0
    have hl_0 : r_0.length ≤ 4 := hs_0.len rfl
    have ha_0 := ha.ext hp_0
    exact e2_fromM hen ha_0 hcall (e2_cutA_ok (e2_fa (fun al st E h hc => hn_0 al st E h hc) e2_fz)) (hC []) (X := e2x_59) ex2_59 66 ck_a124_0
  have EN_0 := e2_entL (u := 3) (j := 5) (lo := 2147483648) (hi := 2147483678) hl0 rfl rfl rfl ci_a124_0 cj_a124_0 L_0
  exact e2_from hen ha hcall (e2_cutA_ok (e2_fa (fun al st E h hc => EN_0 al st E h hc) e2_fz)) (hC []) (X := e2x_59) ex2_59 0 ck_a124_e
/-! a125 X3_parseUnit -/
def as_a125 : List ev_V := [(2, 33, 0), (2, 27, 0), (0, 5, 0)]
def E_a125 : e2_E := [(2147483648, 2147583648, 0, 0), (2147483652, 2147483668, 1, 0), (2147483648, 2147485248, 2, 0)]
noncomputable def f_a125 : ev_H := (an606 : e2_Q8)
noncomputable def q_a125_0 : ev_H := (an606 : e2_Q8)
noncomputable def rs_a125 : e2_Rs := [((11, 2147483648, 2147483649), q_a125_0)]
noncomputable def s_a125 : e2_Sm := (62, as_a125, E_a125, f_a125, rs_a125)
noncomputable def S_a125 : List e2_Sm := [s_a37, s_a38, s_a124]
noncomputable def I_a125 : List e2_In := [(18, 2, e2x_18), (19, 2, e2x_19), (20, 2, e2x_20), (43, 2, e2x_43), (44, 3, e2x_44)]
set_option maxRecDepth 1000000 in
theorem ck_a125 : e2_run (e2_cal S_a125 I_a125 4000 2) (e2_fin rs_a125) e2x_62 (fun _ => false) (fun _ _ _ _ _ => false) 4000 (e2_seek e2x_62 0) (e2_al 7 as_a125) [] E_a125 f_a125 = true := by decide +kernel
set_option maxRecDepth 1000000 in
theorem co_a125 : e2_okSB E_a125.length as_a125 f_a125 rs_a125 = true := by decide +kernel
theorem cs_a125 (hen : en_ok) (l : Launch) (hh : e2_hand_a l) : e2_smOk l 103 s_a125 := e2_con0 (H := 100) (n := 2) (C := evd_62) (S := S_a125) (I := I_a125) (fuel := 4000) [] hen ei_62 (e2_fa ((cs_a37 hen l hh).mono (by decide)) (e2_fa ((cs_a38 hen l hh).mono (by decide)) (e2_fa (cs_a124 hen l hh) e2_fz))) (e2_fa ein_18 (e2_fa ein_19 (e2_fa ein_20 (e2_fa ein_43 (e2_fa ein_44 e2_fz))))) (by decide) co_a125 ex2_62 ck_a125
/-! a126 X3_parseLevel -/
def as_a126 : List ev_V := [(2, 33, 0), (2, 27, 0), (0, 5, 0), (0, 5, 0)]
def E_a126 : e2_E := [(2147483648, 2147583648, 0, 0), (2147483652, 2147483668, 1, 0), (2147483648, 2147485248, 2, 0)]
noncomputable def f_a126 : ev_H := (an606 : e2_Q8)
noncomputable def q_a126_0 : ev_H := (an606 : e2_Q8)
noncomputable def rs_a126 : e2_Rs := [((11, 2147483648, 2147483649), q_a126_0)]
noncomputable def s_a126 : e2_Sm := (59, as_a126, E_a126, f_a126, rs_a126)
noncomputable def S_a126 : List e2_Sm := [s_a125]
noncomputable def I_a126 : List e2_In := []
set_option maxRecDepth 1000000 in
theorem ck_a126 : e2_run (e2_cal S_a126 I_a126 4000 0) (e2_fin rs_a126) e2x_59 (fun _ => false) (fun _ _ _ _ _ => false) 4000 (e2_seek e2x_59 0) (e2_al 7 as_a126) [] E_a126 f_a126 = true := by decide +kernel
set_option maxRecDepth 1000000 in
theorem co_a126 : e2_okSB E_a126.length as_a126 f_a126 rs_a126 = true := by decide +kernel
theorem cs_a126 (hen : en_ok) (l : Launch) (hh : e2_hand_a l) : e2_smOk l 104 s_a126 := e2_con0 (H := 103) (n := 0) (C := evd_59) (S := S_a126) (I := I_a126) (fuel := 4000) [] hen ei_59 (e2_fa (cs_a125 hen l hh) e2_fz) e2_fz (by decide) co_a126 ex2_59 ck_a126
/-! a127 X3_parseLevel -/
def as_a127 : List ev_V := [(2, 33, 0), (2, 27, 0), (0, 4, 0), (0, 5, 0)]
def E_a127 : e2_E := [(2147483648, 2147583648, 0, 0), (2147483652, 2147483668, 1, 0), (2147483648, 2147485248, 2, 0)]
noncomputable def f_a127 : ev_H := (an606 : e2_Q8)
noncomputable def q_a127_0 : ev_H := (an606 : e2_Q8)
noncomputable def rs_a127 : e2_Rs := [((11, 2147483648, 2147483649), q_a127_0)]
noncomputable def s_a127 : e2_Sm := (59, as_a127, E_a127, f_a127, rs_a127)
noncomputable def S_a127 : List e2_Sm := [s_a37, s_a126]
noncomputable def I_a127 : List e2_In := [(19, 2, e2x_19), (20, 2, e2x_20), (60, 1, e2x_60)]
set_option maxRecDepth 1000000 in
theorem co_a127 : e2_okSB E_a127.length as_a127 f_a127 rs_a127 = true := by decide +kernel
def al_a127_0 : List ev_V := [(2, 33, 0), (2, 27, 0), (0, 4, 0), (0, 5, 0), (0, 30, 0), (1, 3, 4294967296), (9, 0, 0)]
def E_a127_0 : e2_E := [(2147483648, 2147583648, 0, 0), (2147483652, 2147483668, 1, 0), (2147483648, 2147485248, 2, 0), (2147483648, 2147483678, 3, 0)]
noncomputable def h_a127_0 : ev_H := (an606 : e2_Q8)
noncomputable def cl_a127_e : List (Nat × e2_S) := [(66, e2_cutL (al_a127_0.set 5 (11, 2147483648, 2147483678)) 3 (E_a127_0.take 3) h_a127_0)]
set_option maxRecDepth 1000000 in
theorem ck_a127_e : e2_run (e2_cal S_a127 I_a127 4000 2) (e2_fin rs_a127) e2x_59 (e2_bpL cl_a127_e) (e2_cutA cl_a127_e) 4000 (e2_seek e2x_59 0) (e2_al 7 as_a127) [] E_a127 f_a127 = true := by decide +kernel
noncomputable def cl_a127_0 : List (Nat × e2_S) := [(66, e2_cutL (al_a127_0.set 5 (13, 11, 2147483678)) 3 (E_a127_0.take 3) h_a127_0)]
set_option maxRecDepth 1000000 in
theorem ck_a127_0 : e2_runM (e2_cal S_a127 I_a127 4000 2) (e2_fin rs_a127) e2x_59 (e2_bpL cl_a127_0) (e2_cutA cl_a127_0) 4000 (e2_seek e2x_59 66) al_a127_0 [] E_a127_0 h_a127_0 = true := by decide +kernel
set_option maxRecDepth 1000000 in
theorem ci_a127_0 : e2_idl 3 (al_a127_0.set 5 (9, 0, 0)) = true := by decide +kernel
set_option maxRecDepth 1000000 in
theorem cj_a127_0 : e2_idh 3 8 h_a127_0 = true := by decide +kernel
theorem cs_a127 (hen : en_ok) (l : Launch) (hh : e2_hand_a l) : e2_smOk l 107 s_a127 := by
  refine e2_conG (H := 104) (n := 2) (C := evd_59) (S := S_a127) (I := I_a127) (fuel := 4000) hen ei_59 (e2_fa ((cs_a37 hen l hh).mono (by decide)) (e2_fa (cs_a126 hen l hh) e2_fz)) (e2_fa ein_19 (e2_fa ein_20 (e2_fa ein_60 e2_fz))) (by decide) co_a127 fun M d _ hC hcall p e R s m args below meth c Q D cA A ads r0 ha hl0 => ?_
  have L_0 : e2_gdM M p l e R s m args below meth c Q D cA A ads r0 66 al_a127_0 [] E_a127_0 h_a127_0 := by
    refine e2_indL (u := 3) (j := 5) (lo := 2147483648) (hi := 2147483678) (b := 3) (dd := 0) hl0 (by decide) rfl rfl (Or.inr ⟨rfl, rfl⟩) rfl ci_a127_0 cj_a127_0 ?_
    intro r_0 k_0 hk_0 hp_0 hs_0 hn_0
    have hl_0 : r_0.length ≤ 4 := hs_0.len rfl
    have ha_0 := ha.ext hp_0
    exact e2_fromM hen ha_0 hcall (e2_cutA_ok (e2_fa (fun al st E h hc => hn_0 al st E h hc) e2_fz)) (hC []) (X := e2x_59) ex2_59 66 ck_a127_0
  have EN_0 := e2_entL (u := 3) (j := 5) (lo := 2147483648) (hi := 2147483678) hl0 rfl rfl rfl ci_a127_0 cj_a127_0 L_0
  exact e2_from hen ha hcall (e2_cutA_ok (e2_fa (fun al st E h hc => EN_0 al st E h hc) e2_fz)) (hC []) (X := e2x_59) ex2_59 0 ck_a127_e
/-! a128 X3_parseLevel -/
def as_a128 : List ev_V := [(2, 33, 0), (2, 27, 0), (0, 3, 0), (0, 5, 0)]
def E_a128 : e2_E := [(2147483648, 2147583648, 0, 0), (2147483652, 2147483668, 1, 0), (2147483648, 2147485248, 2, 0)]
noncomputable def f_a128 : ev_H := (an606 : e2_Q8)
noncomputable def q_a128_0 : ev_H := (an606 : e2_Q8)
noncomputable def rs_a128 : e2_Rs := [((11, 2147483648, 2147483649), q_a128_0)]
noncomputable def s_a128 : e2_Sm := (59, as_a128, E_a128, f_a128, rs_a128)
noncomputable def S_a128 : List e2_Sm := [s_a37, s_a127]
noncomputable def I_a128 : List e2_In := [(19, 2, e2x_19), (20, 2, e2x_20), (60, 1, e2x_60)]
set_option maxRecDepth 1000000 in
theorem co_a128 : e2_okSB E_a128.length as_a128 f_a128 rs_a128 = true := by decide +kernel
def al_a128_0 : List ev_V := [(2, 33, 0), (2, 27, 0), (0, 3, 0), (0, 5, 0), (0, 30, 0), (1, 3, 4294967296), (9, 0, 0)]
def E_a128_0 : e2_E := [(2147483648, 2147583648, 0, 0), (2147483652, 2147483668, 1, 0), (2147483648, 2147485248, 2, 0), (2147483648, 2147483678, 3, 0)]
noncomputable def h_a128_0 : ev_H := (an606 : e2_Q8)
noncomputable def cl_a128_e : List (Nat × e2_S) := [(66, e2_cutL (al_a128_0.set 5 (11, 2147483648, 2147483678)) 3 (E_a128_0.take 3) h_a128_0)]
set_option maxRecDepth 1000000 in
theorem ck_a128_e : e2_run (e2_cal S_a128 I_a128 4000 2) (e2_fin rs_a128) e2x_59 (e2_bpL cl_a128_e) (e2_cutA cl_a128_e) 4000 (e2_seek e2x_59 0) (e2_al 7 as_a128) [] E_a128 f_a128 = true := by decide +kernel
noncomputable def cl_a128_0 : List (Nat × e2_S) := [(66, e2_cutL (al_a128_0.set 5 (13, 11, 2147483678)) 3 (E_a128_0.take 3) h_a128_0)]
set_option maxRecDepth 1000000 in
theorem ck_a128_0 : e2_runM (e2_cal S_a128 I_a128 4000 2) (e2_fin rs_a128) e2x_59 (e2_bpL cl_a128_0) (e2_cutA cl_a128_0) 4000 (e2_seek e2x_59 66) al_a128_0 [] E_a128_0 h_a128_0 = true := by decide +kernel
set_option maxRecDepth 1000000 in
theorem ci_a128_0 : e2_idl 3 (al_a128_0.set 5 (9, 0, 0)) = true := by decide +kernel
set_option maxRecDepth 1000000 in
theorem cj_a128_0 : e2_idh 3 8 h_a128_0 = true := by decide +kernel
theorem cs_a128 (hen : en_ok) (l : Launch) (hh : e2_hand_a l) : e2_smOk l 110 s_a128 := by
  refine e2_conG (H := 107) (n := 2) (C := evd_59) (S := S_a128) (I := I_a128) (fuel := 4000) hen ei_59 (e2_fa ((cs_a37 hen l hh).mono (by decide)) (e2_fa (cs_a127 hen l hh) e2_fz)) (e2_fa ein_19 (e2_fa ein_20 (e2_fa ein_60 e2_fz))) (by decide) co_a128 fun M d _ hC hcall p e R s m args below meth c Q D cA A ads r0 ha hl0 => ?_
  have L_0 : e2_gdM M p l e R s m args below meth c Q D cA A ads r0 66 al_a128_0 [] E_a128_0 h_a128_0 := by
    refine e2_indL (u := 3) (j := 5) (lo := 2147483648) (hi := 2147483678) (b := 3) (dd := 0) hl0 (by decide) rfl rfl (Or.inr ⟨rfl, rfl⟩) rfl ci_a128_0 cj_a128_0 ?_
    intro r_0 k_0 hk_0 hp_0 hs_0 hn_0
    have hl_0 : r_0.length ≤ 4 := hs_0.len rfl
    have ha_0 := ha.ext hp_0
    exact e2_fromM hen ha_0 hcall (e2_cutA_ok (e2_fa (fun al st E h hc => hn_0 al st E h hc) e2_fz)) (hC []) (X := e2x_59) ex2_59 66 ck_a128_0
  have EN_0 := e2_entL (u := 3) (j := 5) (lo := 2147483648) (hi := 2147483678) hl0 rfl rfl rfl ci_a128_0 cj_a128_0 L_0
  exact e2_from hen ha hcall (e2_cutA_ok (e2_fa (fun al st E h hc => EN_0 al st E h hc) e2_fz)) (hC []) (X := e2x_59) ex2_59 0 ck_a128_e
/-! a129 X3_parseNot -/
def as_a129 : List ev_V := [(2, 33, 0), (2, 27, 0), (0, 5, 0)]
def E_a129 : e2_E := [(2147483648, 2147583648, 0, 0), (2147483652, 2147483668, 1, 0), (2147483648, 2147485248, 2, 0)]
noncomputable def f_a129 : ev_H := (an606 : e2_Q8)
noncomputable def q_a129_0 : ev_H := (an606 : e2_Q8)
noncomputable def rs_a129 : e2_Rs := [((11, 2147483648, 2147483649), q_a129_0)]
noncomputable def s_a129 : e2_Sm := (61, as_a129, E_a129, f_a129, rs_a129)
noncomputable def S_a129 : List e2_Sm := [s_a37, s_a122]
noncomputable def I_a129 : List e2_In := [(19, 2, e2x_19), (20, 2, e2x_20)]
set_option maxRecDepth 1000000 in
theorem ck_a129 : e2_run (e2_cal S_a129 I_a129 4000 2) (e2_fin rs_a129) e2x_61 (fun _ => false) (fun _ _ _ _ _ => false) 4000 (e2_seek e2x_61 0) (e2_al 3 as_a129) [] E_a129 f_a129 = true := by decide +kernel
set_option maxRecDepth 1000000 in
theorem co_a129 : e2_okSB E_a129.length as_a129 f_a129 rs_a129 = true := by decide +kernel
theorem cs_a129 (hen : en_ok) (l : Launch) (hh : e2_hand_a l) : e2_smOk l 97 s_a129 := e2_con0 (H := 94) (n := 2) (C := evd_61) (S := S_a129) (I := I_a129) (fuel := 4000) [] hen ei_61 (e2_fa ((cs_a37 hen l hh).mono (by decide)) (e2_fa (cs_a122 hen l hh) e2_fz)) (e2_fa ein_19 (e2_fa ein_20 e2_fz)) (by decide) co_a129 ex2_61 ck_a129
/-! a130 X3_parseLevel -/
def as_a130 : List ev_V := [(2, 33, 0), (2, 27, 0), (0, 2, 0), (0, 5, 0)]
def E_a130 : e2_E := [(2147483648, 2147583648, 0, 0), (2147483652, 2147483668, 1, 0), (2147483648, 2147485248, 2, 0)]
noncomputable def f_a130 : ev_H := (an606 : e2_Q8)
noncomputable def q_a130_0 : ev_H := (an606 : e2_Q8)
noncomputable def rs_a130 : e2_Rs := [((11, 2147483648, 2147483649), q_a130_0)]
noncomputable def s_a130 : e2_Sm := (59, as_a130, E_a130, f_a130, rs_a130)
noncomputable def S_a130 : List e2_Sm := [s_a37, s_a128, s_a129]
noncomputable def I_a130 : List e2_In := [(19, 2, e2x_19), (20, 2, e2x_20), (60, 1, e2x_60)]
set_option maxRecDepth 1000000 in
theorem co_a130 : e2_okSB E_a130.length as_a130 f_a130 rs_a130 = true := by decide +kernel
def al_a130_0 : List ev_V := [(2, 33, 0), (2, 27, 0), (0, 2, 0), (0, 5, 0), (0, 1, 0), (1, 3, 4294967296), (9, 0, 0)]
def E_a130_0 : e2_E := [(2147483648, 2147583648, 0, 0), (2147483652, 2147483668, 1, 0), (2147483648, 2147485248, 2, 0), (2147483648, 2147483649, 3, 0)]
noncomputable def h_a130_0 : ev_H := (an606 : e2_Q8)
noncomputable def cl_a130_e : List (Nat × e2_S) := [(66, e2_cutL (al_a130_0.set 5 (11, 2147483648, 2147483649)) 3 (E_a130_0.take 3) h_a130_0)]
set_option maxRecDepth 1000000 in
theorem ck_a130_e : e2_run (e2_cal S_a130 I_a130 4000 2) (e2_fin rs_a130) e2x_59 (e2_bpL cl_a130_e) (e2_cutA cl_a130_e) 4000 (e2_seek e2x_59 0) (e2_al 7 as_a130) [] E_a130 f_a130 = true := by decide +kernel
noncomputable def cl_a130_0 : List (Nat × e2_S) := [(66, e2_cutL (al_a130_0.set 5 (13, 11, 2147483649)) 3 (E_a130_0.take 3) h_a130_0)]
set_option maxRecDepth 1000000 in
theorem ck_a130_0 : e2_runM (e2_cal S_a130 I_a130 4000 2) (e2_fin rs_a130) e2x_59 (e2_bpL cl_a130_0) (e2_cutA cl_a130_0) 4000 (e2_seek e2x_59 66) al_a130_0 [] E_a130_0 h_a130_0 = true := by decide +kernel
set_option maxRecDepth 1000000 in
theorem ci_a130_0 : e2_idl 3 (al_a130_0.set 5 (9, 0, 0)) = true := by decide +kernel
set_option maxRecDepth 1000000 in
theorem cj_a130_0 : e2_idh 3 8 h_a130_0 = true := by decide +kernel
theorem cs_a130 (hen : en_ok) (l : Launch) (hh : e2_hand_a l) : e2_smOk l 113 s_a130 := by
  refine e2_conG (H := 110) (n := 2) (C := evd_59) (S := S_a130) (I := I_a130) (fuel := 4000) hen ei_59 (e2_fa ((cs_a37 hen l hh).mono (by decide)) (e2_fa (cs_a128 hen l hh) (e2_fa ((cs_a129 hen l hh).mono (by decide)) e2_fz))) (e2_fa ein_19 (e2_fa ein_20 (e2_fa ein_60 e2_fz))) (by decide) co_a130 fun M d _ hC hcall p e R s m args below meth c Q D cA A ads r0 ha hl0 => ?_
  have L_0 : e2_gdM M p l e R s m args below meth c Q D cA A ads r0 66 al_a130_0 [] E_a130_0 h_a130_0 := by
    refine e2_indL (u := 3) (j := 5) (lo := 2147483648) (hi := 2147483649) (b := 3) (dd := 0) hl0 (by decide) rfl rfl (Or.inr ⟨rfl, rfl⟩) rfl ci_a130_0 cj_a130_0 ?_
    intro r_0 k_0 hk_0 hp_0 hs_0 hn_0
    have hl_0 : r_0.length ≤ 4 := hs_0.len rfl
    have ha_0 := ha.ext hp_0
    exact e2_fromM hen ha_0 hcall (e2_cutA_ok (e2_fa (fun al st E h hc => hn_0 al st E h hc) e2_fz)) (hC []) (X := e2x_59) ex2_59 66 ck_a130_0
  have EN_0 := e2_entL (u := 3) (j := 5) (lo := 2147483648) (hi := 2147483649) hl0 rfl rfl rfl ci_a130_0 cj_a130_0 L_0
  exact e2_from hen ha hcall (e2_cutA_ok (e2_fa (fun al st E h hc => EN_0 al st E h hc) e2_fz)) (hC []) (X := e2x_59) ex2_59 0 ck_a130_e
/-! a131 X3_parseLevel -/
def as_a131 : List ev_V := [(2, 33, 0), (2, 27, 0), (0, 1, 0), (0, 5, 0)]
def E_a131 : e2_E := [(2147483648, 2147583648, 0, 0), (2147483652, 2147483668, 1, 0), (2147483648, 2147485248, 2, 0)]
noncomputable def f_a131 : ev_H := (an606 : e2_Q8)
noncomputable def q_a131_0 : ev_H := (an606 : e2_Q8)
noncomputable def rs_a131 : e2_Rs := [((11, 2147483648, 2147483649), q_a131_0)]
noncomputable def s_a131 : e2_Sm := (59, as_a131, E_a131, f_a131, rs_a131)
noncomputable def S_a131 : List e2_Sm := [s_a37, s_a130]
noncomputable def I_a131 : List e2_In := [(19, 2, e2x_19), (20, 2, e2x_20), (60, 1, e2x_60)]
set_option maxRecDepth 1000000 in
theorem co_a131 : e2_okSB E_a131.length as_a131 f_a131 rs_a131 = true := by decide +kernel
def al_a131_0 : List ev_V := [(2, 33, 0), (2, 27, 0), (0, 1, 0), (0, 5, 0), (0, 30, 0), (1, 3, 4294967296), (9, 0, 0)]
def E_a131_0 : e2_E := [(2147483648, 2147583648, 0, 0), (2147483652, 2147483668, 1, 0), (2147483648, 2147485248, 2, 0), (2147483648, 2147483678, 3, 0)]
noncomputable def h_a131_0 : ev_H := (an606 : e2_Q8)
noncomputable def cl_a131_e : List (Nat × e2_S) := [(66, e2_cutL (al_a131_0.set 5 (11, 2147483648, 2147483678)) 3 (E_a131_0.take 3) h_a131_0)]
set_option maxRecDepth 1000000 in
theorem ck_a131_e : e2_run (e2_cal S_a131 I_a131 4000 2) (e2_fin rs_a131) e2x_59 (e2_bpL cl_a131_e) (e2_cutA cl_a131_e) 4000 (e2_seek e2x_59 0) (e2_al 7 as_a131) [] E_a131 f_a131 = true := by decide +kernel
noncomputable def cl_a131_0 : List (Nat × e2_S) := [(66, e2_cutL (al_a131_0.set 5 (13, 11, 2147483678)) 3 (E_a131_0.take 3) h_a131_0)]
set_option maxRecDepth 1000000 in
theorem ck_a131_0 : e2_runM (e2_cal S_a131 I_a131 4000 2) (e2_fin rs_a131) e2x_59 (e2_bpL cl_a131_0) (e2_cutA cl_a131_0) 4000 (e2_seek e2x_59 66) al_a131_0 [] E_a131_0 h_a131_0 = true := by decide +kernel
set_option maxRecDepth 1000000 in
theorem ci_a131_0 : e2_idl 3 (al_a131_0.set 5 (9, 0, 0)) = true := by decide +kernel
set_option maxRecDepth 1000000 in
theorem cj_a131_0 : e2_idh 3 8 h_a131_0 = true := by decide +kernel
theorem cs_a131 (hen : en_ok) (l : Launch) (hh : e2_hand_a l) : e2_smOk l 116 s_a131 := by
  refine e2_conG (H := 113) (n := 2) (C := evd_59) (S := S_a131) (I := I_a131) (fuel := 4000) hen ei_59 (e2_fa ((cs_a37 hen l hh).mono (by decide)) (e2_fa (cs_a130 hen l hh) e2_fz)) (e2_fa ein_19 (e2_fa ein_20 (e2_fa ein_60 e2_fz))) (by decide) co_a131 fun M d _ hC hcall p e R s m args below meth c Q D cA A ads r0 ha hl0 => ?_
  have L_0 : e2_gdM M p l e R s m args below meth c Q D cA A ads r0 66 al_a131_0 [] E_a131_0 h_a131_0 := by
    refine e2_indL (u := 3) (j := 5) (lo := 2147483648) (hi := 2147483678) (b := 3) (dd := 0) hl0 (by decide) rfl rfl (Or.inr ⟨rfl, rfl⟩) rfl ci_a131_0 cj_a131_0 ?_
    intro r_0 k_0 hk_0 hp_0 hs_0 hn_0
    have hl_0 : r_0.length ≤ 4 := hs_0.len rfl
    have ha_0 := ha.ext hp_0
    exact e2_fromM hen ha_0 hcall (e2_cutA_ok (e2_fa (fun al st E h hc => hn_0 al st E h hc) e2_fz)) (hC []) (X := e2x_59) ex2_59 66 ck_a131_0
  have EN_0 := e2_entL (u := 3) (j := 5) (lo := 2147483648) (hi := 2147483678) hl0 rfl rfl rfl ci_a131_0 cj_a131_0 L_0
  exact e2_from hen ha hcall (e2_cutA_ok (e2_fa (fun al st E h hc => EN_0 al st E h hc) e2_fz)) (hC []) (X := e2x_59) ex2_59 0 ck_a131_e
/-! a132 X3_parseLevel -/
def as_a132 : List ev_V := [(2, 33, 0), (2, 27, 0), (0, 0, 0), (0, 5, 0)]
def E_a132 : e2_E := [(2147483648, 2147583648, 0, 0), (2147483652, 2147483668, 1, 0), (2147483648, 2147485248, 2, 0)]
noncomputable def f_a132 : ev_H := (an606 : e2_Q8)
noncomputable def q_a132_0 : ev_H := (an606 : e2_Q8)
noncomputable def rs_a132 : e2_Rs := [((11, 2147483648, 2147483649), q_a132_0)]
noncomputable def s_a132 : e2_Sm := (59, as_a132, E_a132, f_a132, rs_a132)
noncomputable def S_a132 : List e2_Sm := [s_a37, s_a131]
noncomputable def I_a132 : List e2_In := [(19, 2, e2x_19), (20, 2, e2x_20), (60, 1, e2x_60)]
set_option maxRecDepth 1000000 in
theorem co_a132 : e2_okSB E_a132.length as_a132 f_a132 rs_a132 = true := by decide +kernel
def al_a132_0 : List ev_V := [(2, 33, 0), (2, 27, 0), (0, 0, 0), (0, 5, 0), (0, 30, 0), (1, 3, 4294967296), (9, 0, 0)]
def E_a132_0 : e2_E := [(2147483648, 2147583648, 0, 0), (2147483652, 2147483668, 1, 0), (2147483648, 2147485248, 2, 0), (2147483648, 2147483678, 3, 0)]
noncomputable def h_a132_0 : ev_H := (an606 : e2_Q8)
noncomputable def cl_a132_e : List (Nat × e2_S) := [(66, e2_cutL (al_a132_0.set 5 (11, 2147483648, 2147483678)) 3 (E_a132_0.take 3) h_a132_0)]
set_option maxRecDepth 1000000 in
theorem ck_a132_e : e2_run (e2_cal S_a132 I_a132 4000 2) (e2_fin rs_a132) e2x_59 (e2_bpL cl_a132_e) (e2_cutA cl_a132_e) 4000 (e2_seek e2x_59 0) (e2_al 7 as_a132) [] E_a132 f_a132 = true := by decide +kernel
noncomputable def cl_a132_0 : List (Nat × e2_S) := [(66, e2_cutL (al_a132_0.set 5 (13, 11, 2147483678)) 3 (E_a132_0.take 3) h_a132_0)]
set_option maxRecDepth 1000000 in
theorem ck_a132_0 : e2_runM (e2_cal S_a132 I_a132 4000 2) (e2_fin rs_a132) e2x_59 (e2_bpL cl_a132_0) (e2_cutA cl_a132_0) 4000 (e2_seek e2x_59 66) al_a132_0 [] E_a132_0 h_a132_0 = true := by decide +kernel
set_option maxRecDepth 1000000 in
theorem ci_a132_0 : e2_idl 3 (al_a132_0.set 5 (9, 0, 0)) = true := by decide +kernel
set_option maxRecDepth 1000000 in
theorem cj_a132_0 : e2_idh 3 8 h_a132_0 = true := by decide +kernel
theorem cs_a132 (hen : en_ok) (l : Launch) (hh : e2_hand_a l) : e2_smOk l 119 s_a132 := by
  refine e2_conG (H := 116) (n := 2) (C := evd_59) (S := S_a132) (I := I_a132) (fuel := 4000) hen ei_59 (e2_fa ((cs_a37 hen l hh).mono (by decide)) (e2_fa (cs_a131 hen l hh) e2_fz)) (e2_fa ein_19 (e2_fa ein_20 (e2_fa ein_60 e2_fz))) (by decide) co_a132 fun M d _ hC hcall p e R s m args below meth c Q D cA A ads r0 ha hl0 => ?_
  have L_0 : e2_gdM M p l e R s m args below meth c Q D cA A ads r0 66 al_a132_0 [] E_a132_0 h_a132_0 := by
    refine e2_indL (u := 3) (j := 5) (lo := 2147483648) (hi := 2147483678) (b := 3) (dd := 0) hl0 (by decide) rfl rfl (Or.inr ⟨rfl, rfl⟩) rfl ci_a132_0 cj_a132_0 ?_
    intro r_0 k_0 hk_0 hp_0 hs_0 hn_0
    have hl_0 : r_0.length ≤ 4 := hs_0.len rfl
    have ha_0 := ha.ext hp_0
    exact e2_fromM hen ha_0 hcall (e2_cutA_ok (e2_fa (fun al st E h hc => hn_0 al st E h hc) e2_fz)) (hC []) (X := e2x_59) ex2_59 66 ck_a132_0
  have EN_0 := e2_entL (u := 3) (j := 5) (lo := 2147483648) (hi := 2147483678) hl0 rfl rfl rfl ci_a132_0 cj_a132_0 L_0
  exact e2_from hen ha hcall (e2_cutA_ok (e2_fa (fun al st E h hc => EN_0 al st E h hc) e2_fz)) (hC []) (X := e2x_59) ex2_59 0 ck_a132_e
/-! a133 X3_parseUnit -/
def as_a133 : List ev_V := [(2, 33, 0), (2, 27, 0), (0, 4, 0)]
def E_a133 : e2_E := [(2147483648, 2147583648, 0, 0), (2147483652, 2147483668, 1, 0), (2147483648, 2147485248, 2, 0)]
noncomputable def f_a133 : ev_H := (an606 : e2_Q8)
noncomputable def q_a133_0 : ev_H := (an606 : e2_Q8)
noncomputable def rs_a133 : e2_Rs := [((11, 2147483648, 2147483649), q_a133_0)]
noncomputable def s_a133 : e2_Sm := (62, as_a133, E_a133, f_a133, rs_a133)
noncomputable def S_a133 : List e2_Sm := [s_a37, s_a38, s_a132]
noncomputable def I_a133 : List e2_In := [(18, 2, e2x_18), (19, 2, e2x_19), (20, 2, e2x_20), (43, 2, e2x_43), (44, 3, e2x_44)]
set_option maxRecDepth 1000000 in
theorem ck_a133 : e2_run (e2_cal S_a133 I_a133 4000 2) (e2_fin rs_a133) e2x_62 (fun _ => false) (fun _ _ _ _ _ => false) 4000 (e2_seek e2x_62 0) (e2_al 7 as_a133) [] E_a133 f_a133 = true := by decide +kernel
set_option maxRecDepth 1000000 in
theorem co_a133 : e2_okSB E_a133.length as_a133 f_a133 rs_a133 = true := by decide +kernel
theorem cs_a133 (hen : en_ok) (l : Launch) (hh : e2_hand_a l) : e2_smOk l 122 s_a133 := e2_con0 (H := 119) (n := 2) (C := evd_62) (S := S_a133) (I := I_a133) (fuel := 4000) [] hen ei_62 (e2_fa ((cs_a37 hen l hh).mono (by decide)) (e2_fa ((cs_a38 hen l hh).mono (by decide)) (e2_fa (cs_a132 hen l hh) e2_fz))) (e2_fa ein_18 (e2_fa ein_19 (e2_fa ein_20 (e2_fa ein_43 (e2_fa ein_44 e2_fz))))) (by decide) co_a133 ex2_62 ck_a133
/-! a134 X3_parseLevel -/
def as_a134 : List ev_V := [(2, 33, 0), (2, 27, 0), (0, 5, 0), (0, 4, 0)]
def E_a134 : e2_E := [(2147483648, 2147583648, 0, 0), (2147483652, 2147483668, 1, 0), (2147483648, 2147485248, 2, 0)]
noncomputable def f_a134 : ev_H := (an606 : e2_Q8)
noncomputable def q_a134_0 : ev_H := (an606 : e2_Q8)
noncomputable def rs_a134 : e2_Rs := [((11, 2147483648, 2147483649), q_a134_0)]
noncomputable def s_a134 : e2_Sm := (59, as_a134, E_a134, f_a134, rs_a134)
noncomputable def S_a134 : List e2_Sm := [s_a133]
noncomputable def I_a134 : List e2_In := []
set_option maxRecDepth 1000000 in
theorem ck_a134 : e2_run (e2_cal S_a134 I_a134 4000 0) (e2_fin rs_a134) e2x_59 (fun _ => false) (fun _ _ _ _ _ => false) 4000 (e2_seek e2x_59 0) (e2_al 7 as_a134) [] E_a134 f_a134 = true := by decide +kernel
set_option maxRecDepth 1000000 in
theorem co_a134 : e2_okSB E_a134.length as_a134 f_a134 rs_a134 = true := by decide +kernel
theorem cs_a134 (hen : en_ok) (l : Launch) (hh : e2_hand_a l) : e2_smOk l 123 s_a134 := e2_con0 (H := 122) (n := 0) (C := evd_59) (S := S_a134) (I := I_a134) (fuel := 4000) [] hen ei_59 (e2_fa (cs_a133 hen l hh) e2_fz) e2_fz (by decide) co_a134 ex2_59 ck_a134
/-! a135 X3_parseLevel -/
def as_a135 : List ev_V := [(2, 33, 0), (2, 27, 0), (0, 4, 0), (0, 4, 0)]
def E_a135 : e2_E := [(2147483648, 2147583648, 0, 0), (2147483652, 2147483668, 1, 0), (2147483648, 2147485248, 2, 0)]
noncomputable def f_a135 : ev_H := (an606 : e2_Q8)
noncomputable def q_a135_0 : ev_H := (an606 : e2_Q8)
noncomputable def rs_a135 : e2_Rs := [((11, 2147483648, 2147483649), q_a135_0)]
noncomputable def s_a135 : e2_Sm := (59, as_a135, E_a135, f_a135, rs_a135)
noncomputable def S_a135 : List e2_Sm := [s_a37, s_a134]
noncomputable def I_a135 : List e2_In := [(19, 2, e2x_19), (20, 2, e2x_20), (60, 1, e2x_60)]
set_option maxRecDepth 1000000 in
theorem co_a135 : e2_okSB E_a135.length as_a135 f_a135 rs_a135 = true := by decide +kernel
def al_a135_0 : List ev_V := [(2, 33, 0), (2, 27, 0), (0, 4, 0), (0, 4, 0), (0, 30, 0), (1, 3, 4294967296), (9, 0, 0)]
def E_a135_0 : e2_E := [(2147483648, 2147583648, 0, 0), (2147483652, 2147483668, 1, 0), (2147483648, 2147485248, 2, 0), (2147483648, 2147483678, 3, 0)]
noncomputable def h_a135_0 : ev_H := (an606 : e2_Q8)
noncomputable def cl_a135_e : List (Nat × e2_S) := [(66, e2_cutL (al_a135_0.set 5 (11, 2147483648, 2147483678)) 3 (E_a135_0.take 3) h_a135_0)]
set_option maxRecDepth 1000000 in
theorem ck_a135_e : e2_run (e2_cal S_a135 I_a135 4000 2) (e2_fin rs_a135) e2x_59 (e2_bpL cl_a135_e) (e2_cutA cl_a135_e) 4000 (e2_seek e2x_59 0) (e2_al 7 as_a135) [] E_a135 f_a135 = true := by decide +kernel
noncomputable def cl_a135_0 : List (Nat × e2_S) := [(66, e2_cutL (al_a135_0.set 5 (13, 11, 2147483678)) 3 (E_a135_0.take 3) h_a135_0)]
set_option maxRecDepth 1000000 in
theorem ck_a135_0 : e2_runM (e2_cal S_a135 I_a135 4000 2) (e2_fin rs_a135) e2x_59 (e2_bpL cl_a135_0) (e2_cutA cl_a135_0) 4000 (e2_seek e2x_59 66) al_a135_0 [] E_a135_0 h_a135_0 = true := by decide +kernel
set_option maxRecDepth 1000000 in
theorem ci_a135_0 : e2_idl 3 (al_a135_0.set 5 (9, 0, 0)) = true := by decide +kernel
set_option maxRecDepth 1000000 in
theorem cj_a135_0 : e2_idh 3 8 h_a135_0 = true := by decide +kernel
theorem cs_a135 (hen : en_ok) (l : Launch) (hh : e2_hand_a l) : e2_smOk l 126 s_a135 := by
  refine e2_conG (H := 123) (n := 2) (C := evd_59) (S := S_a135) (I := I_a135) (fuel := 4000) hen ei_59 (e2_fa ((cs_a37 hen l hh).mono (by decide)) (e2_fa (cs_a134 hen l hh) e2_fz)) (e2_fa ein_19 (e2_fa ein_20 (e2_fa ein_60 e2_fz))) (by decide) co_a135 fun M d _ hC hcall p e R s m args below meth c Q D cA A ads r0 ha hl0 => ?_
  have L_0 : e2_gdM M p l e R s m args below meth c Q D cA A ads r0 66 al_a135_0 [] E_a135_0 h_a135_0 := by
    refine e2_indL (u := 3) (j := 5) (lo := 2147483648) (hi := 2147483678) (b := 3) (dd := 0) hl0 (by decide) rfl rfl (Or.inr ⟨rfl, rfl⟩) rfl ci_a135_0 cj_a135_0 ?_
    intro r_0 k_0 hk_0 hp_0 hs_0 hn_0
    have hl_0 : r_0.length ≤ 4 := hs_0.len rfl
    have ha_0 := ha.ext hp_0
    exact e2_fromM hen ha_0 hcall (e2_cutA_ok (e2_fa (fun al st E h hc => hn_0 al st E h hc) e2_fz)) (hC []) (X := e2x_59) ex2_59 66 ck_a135_0
  have EN_0 := e2_entL (u := 3) (j := 5) (lo := 2147483648) (hi := 2147483678) hl0 rfl rfl rfl ci_a135_0 cj_a135_0 L_0
  exact e2_from hen ha hcall (e2_cutA_ok (e2_fa (fun al st E h hc => EN_0 al st E h hc) e2_fz)) (hC []) (X := e2x_59) ex2_59 0 ck_a135_e
/-! a136 X3_parseLevel -/
def as_a136 : List ev_V := [(2, 33, 0), (2, 27, 0), (0, 3, 0), (0, 4, 0)]
def E_a136 : e2_E := [(2147483648, 2147583648, 0, 0), (2147483652, 2147483668, 1, 0), (2147483648, 2147485248, 2, 0)]
noncomputable def f_a136 : ev_H := (an606 : e2_Q8)
noncomputable def q_a136_0 : ev_H := (an606 : e2_Q8)
noncomputable def rs_a136 : e2_Rs := [((11, 2147483648, 2147483649), q_a136_0)]
noncomputable def s_a136 : e2_Sm := (59, as_a136, E_a136, f_a136, rs_a136)
noncomputable def S_a136 : List e2_Sm := [s_a37, s_a135]
noncomputable def I_a136 : List e2_In := [(19, 2, e2x_19), (20, 2, e2x_20), (60, 1, e2x_60)]
set_option maxRecDepth 1000000 in
theorem co_a136 : e2_okSB E_a136.length as_a136 f_a136 rs_a136 = true := by decide +kernel
def al_a136_0 : List ev_V := [(2, 33, 0), (2, 27, 0), (0, 3, 0), (0, 4, 0), (0, 30, 0), (1, 3, 4294967296), (9, 0, 0)]
def E_a136_0 : e2_E := [(2147483648, 2147583648, 0, 0), (2147483652, 2147483668, 1, 0), (2147483648, 2147485248, 2, 0), (2147483648, 2147483678, 3, 0)]
noncomputable def h_a136_0 : ev_H := (an606 : e2_Q8)
noncomputable def cl_a136_e : List (Nat × e2_S) := [(66, e2_cutL (al_a136_0.set 5 (11, 2147483648, 2147483678)) 3 (E_a136_0.take 3) h_a136_0)]
set_option maxRecDepth 1000000 in
theorem ck_a136_e : e2_run (e2_cal S_a136 I_a136 4000 2) (e2_fin rs_a136) e2x_59 (e2_bpL cl_a136_e) (e2_cutA cl_a136_e) 4000 (e2_seek e2x_59 0) (e2_al 7 as_a136) [] E_a136 f_a136 = true := by decide +kernel
noncomputable def cl_a136_0 : List (Nat × e2_S) := [(66, e2_cutL (al_a136_0.set 5 (13, 11, 2147483678)) 3 (E_a136_0.take 3) h_a136_0)]
set_option maxRecDepth 1000000 in
theorem ck_a136_0 : e2_runM (e2_cal S_a136 I_a136 4000 2) (e2_fin rs_a136) e2x_59 (e2_bpL cl_a136_0) (e2_cutA cl_a136_0) 4000 (e2_seek e2x_59 66) al_a136_0 [] E_a136_0 h_a136_0 = true := by decide +kernel
set_option maxRecDepth 1000000 in
theorem ci_a136_0 : e2_idl 3 (al_a136_0.set 5 (9, 0, 0)) = true := by decide +kernel
set_option maxRecDepth 1000000 in
theorem cj_a136_0 : e2_idh 3 8 h_a136_0 = true := by decide +kernel
theorem cs_a136 (hen : en_ok) (l : Launch) (hh : e2_hand_a l) : e2_smOk l 129 s_a136 := by
  refine e2_conG (H := 126) (n := 2) (C := evd_59) (S := S_a136) (I := I_a136) (fuel := 4000) hen ei_59 (e2_fa ((cs_a37 hen l hh).mono (by decide)) (e2_fa (cs_a135 hen l hh) e2_fz)) (e2_fa ein_19 (e2_fa ein_20 (e2_fa ein_60 e2_fz))) (by decide) co_a136 fun M d _ hC hcall p e R s m args below meth c Q D cA A ads r0 ha hl0 => ?_
  have L_0 : e2_gdM M p l e R s m args below meth c Q D cA A ads r0 66 al_a136_0 [] E_a136_0 h_a136_0 := by
    refine e2_indL (u := 3) (j := 5) (lo := 2147483648) (hi := 2147483678) (b := 3) (dd := 0) hl0 (by decide) rfl rfl (Or.inr ⟨rfl, rfl⟩) rfl ci_a136_0 cj_a136_0 ?_
    intro r_0 k_0 hk_0 hp_0 hs_0 hn_0
    have hl_0 : r_0.length ≤ 4 := hs_0.len rfl
    have ha_0 := ha.ext hp_0
    exact e2_fromM hen ha_0 hcall (e2_cutA_ok (e2_fa (fun al st E h hc => hn_0 al st E h hc) e2_fz)) (hC []) (X := e2x_59) ex2_59 66 ck_a136_0
  have EN_0 := e2_entL (u := 3) (j := 5) (lo := 2147483648) (hi := 2147483678) hl0 rfl rfl rfl ci_a136_0 cj_a136_0 L_0
  exact e2_from hen ha hcall (e2_cutA_ok (e2_fa (fun al st E h hc => EN_0 al st E h hc) e2_fz)) (hC []) (X := e2x_59) ex2_59 0 ck_a136_e
/-! a137 X3_parseNot -/
def as_a137 : List ev_V := [(2, 33, 0), (2, 27, 0), (0, 4, 0)]
def E_a137 : e2_E := [(2147483648, 2147583648, 0, 0), (2147483652, 2147483668, 1, 0), (2147483648, 2147485248, 2, 0)]
noncomputable def f_a137 : ev_H := (an606 : e2_Q8)
noncomputable def q_a137_0 : ev_H := (an606 : e2_Q8)
noncomputable def rs_a137 : e2_Rs := [((11, 2147483648, 2147483649), q_a137_0)]
noncomputable def s_a137 : e2_Sm := (61, as_a137, E_a137, f_a137, rs_a137)
noncomputable def S_a137 : List e2_Sm := [s_a37, s_a130]
noncomputable def I_a137 : List e2_In := [(19, 2, e2x_19), (20, 2, e2x_20)]
set_option maxRecDepth 1000000 in
theorem ck_a137 : e2_run (e2_cal S_a137 I_a137 4000 2) (e2_fin rs_a137) e2x_61 (fun _ => false) (fun _ _ _ _ _ => false) 4000 (e2_seek e2x_61 0) (e2_al 3 as_a137) [] E_a137 f_a137 = true := by decide +kernel
set_option maxRecDepth 1000000 in
theorem co_a137 : e2_okSB E_a137.length as_a137 f_a137 rs_a137 = true := by decide +kernel
theorem cs_a137 (hen : en_ok) (l : Launch) (hh : e2_hand_a l) : e2_smOk l 116 s_a137 := e2_con0 (H := 113) (n := 2) (C := evd_61) (S := S_a137) (I := I_a137) (fuel := 4000) [] hen ei_61 (e2_fa ((cs_a37 hen l hh).mono (by decide)) (e2_fa (cs_a130 hen l hh) e2_fz)) (e2_fa ein_19 (e2_fa ein_20 e2_fz)) (by decide) co_a137 ex2_61 ck_a137
/-! a138 X3_parseLevel -/
def as_a138 : List ev_V := [(2, 33, 0), (2, 27, 0), (0, 2, 0), (0, 4, 0)]
def E_a138 : e2_E := [(2147483648, 2147583648, 0, 0), (2147483652, 2147483668, 1, 0), (2147483648, 2147485248, 2, 0)]
noncomputable def f_a138 : ev_H := (an606 : e2_Q8)
noncomputable def q_a138_0 : ev_H := (an606 : e2_Q8)
noncomputable def rs_a138 : e2_Rs := [((11, 2147483648, 2147483649), q_a138_0)]
noncomputable def s_a138 : e2_Sm := (59, as_a138, E_a138, f_a138, rs_a138)
noncomputable def S_a138 : List e2_Sm := [s_a37, s_a136, s_a137]
noncomputable def I_a138 : List e2_In := [(19, 2, e2x_19), (20, 2, e2x_20), (60, 1, e2x_60)]
set_option maxRecDepth 1000000 in
theorem co_a138 : e2_okSB E_a138.length as_a138 f_a138 rs_a138 = true := by decide +kernel
def al_a138_0 : List ev_V := [(2, 33, 0), (2, 27, 0), (0, 2, 0), (0, 4, 0), (0, 1, 0), (1, 3, 4294967296), (9, 0, 0)]
def E_a138_0 : e2_E := [(2147483648, 2147583648, 0, 0), (2147483652, 2147483668, 1, 0), (2147483648, 2147485248, 2, 0), (2147483648, 2147483649, 3, 0)]
noncomputable def h_a138_0 : ev_H := (an606 : e2_Q8)
noncomputable def cl_a138_e : List (Nat × e2_S) := [(66, e2_cutL (al_a138_0.set 5 (11, 2147483648, 2147483649)) 3 (E_a138_0.take 3) h_a138_0)]
set_option maxRecDepth 1000000 in
theorem ck_a138_e : e2_run (e2_cal S_a138 I_a138 4000 2) (e2_fin rs_a138) e2x_59 (e2_bpL cl_a138_e) (e2_cutA cl_a138_e) 4000 (e2_seek e2x_59 0) (e2_al 7 as_a138) [] E_a138 f_a138 = true := by decide +kernel
noncomputable def cl_a138_0 : List (Nat × e2_S) := [(66, e2_cutL (al_a138_0.set 5 (13, 11, 2147483649)) 3 (E_a138_0.take 3) h_a138_0)]
set_option maxRecDepth 1000000 in
theorem ck_a138_0 : e2_runM (e2_cal S_a138 I_a138 4000 2) (e2_fin rs_a138) e2x_59 (e2_bpL cl_a138_0) (e2_cutA cl_a138_0) 4000 (e2_seek e2x_59 66) al_a138_0 [] E_a138_0 h_a138_0 = true := by decide +kernel
set_option maxRecDepth 1000000 in
theorem ci_a138_0 : e2_idl 3 (al_a138_0.set 5 (9, 0, 0)) = true := by decide +kernel
set_option maxRecDepth 1000000 in
theorem cj_a138_0 : e2_idh 3 8 h_a138_0 = true := by decide +kernel
theorem cs_a138 (hen : en_ok) (l : Launch) (hh : e2_hand_a l) : e2_smOk l 132 s_a138 := by
  refine e2_conG (H := 129) (n := 2) (C := evd_59) (S := S_a138) (I := I_a138) (fuel := 4000) hen ei_59 (e2_fa ((cs_a37 hen l hh).mono (by decide)) (e2_fa (cs_a136 hen l hh) (e2_fa ((cs_a137 hen l hh).mono (by decide)) e2_fz))) (e2_fa ein_19 (e2_fa ein_20 (e2_fa ein_60 e2_fz))) (by decide) co_a138 fun M d _ hC hcall p e R s m args below meth c Q D cA A ads r0 ha hl0 => ?_
  have L_0 : e2_gdM M p l e R s m args below meth c Q D cA A ads r0 66 al_a138_0 [] E_a138_0 h_a138_0 := by
    refine e2_indL (u := 3) (j := 5) (lo := 2147483648) (hi := 2147483649) (b := 3) (dd := 0) hl0 (by decide) rfl rfl (Or.inr ⟨rfl, rfl⟩) rfl ci_a138_0 cj_a138_0 ?_
    intro r_0 k_0 hk_0 hp_0 hs_0 hn_0
    have hl_0 : r_0.length ≤ 4 := hs_0.len rfl
    have ha_0 := ha.ext hp_0
    exact e2_fromM hen ha_0 hcall (e2_cutA_ok (e2_fa (fun al st E h hc => hn_0 al st E h hc) e2_fz)) (hC []) (X := e2x_59) ex2_59 66 ck_a138_0
  have EN_0 := e2_entL (u := 3) (j := 5) (lo := 2147483648) (hi := 2147483649) hl0 rfl rfl rfl ci_a138_0 cj_a138_0 L_0
  exact e2_from hen ha hcall (e2_cutA_ok (e2_fa (fun al st E h hc => EN_0 al st E h hc) e2_fz)) (hC []) (X := e2x_59) ex2_59 0 ck_a138_e
/-! a139 X3_parseLevel -/
def as_a139 : List ev_V := [(2, 33, 0), (2, 27, 0), (0, 1, 0), (0, 4, 0)]
def E_a139 : e2_E := [(2147483648, 2147583648, 0, 0), (2147483652, 2147483668, 1, 0), (2147483648, 2147485248, 2, 0)]
noncomputable def f_a139 : ev_H := (an606 : e2_Q8)
noncomputable def q_a139_0 : ev_H := (an606 : e2_Q8)
noncomputable def rs_a139 : e2_Rs := [((11, 2147483648, 2147483649), q_a139_0)]
noncomputable def s_a139 : e2_Sm := (59, as_a139, E_a139, f_a139, rs_a139)
noncomputable def S_a139 : List e2_Sm := [s_a37, s_a138]
noncomputable def I_a139 : List e2_In := [(19, 2, e2x_19), (20, 2, e2x_20), (60, 1, e2x_60)]
set_option maxRecDepth 1000000 in
theorem co_a139 : e2_okSB E_a139.length as_a139 f_a139 rs_a139 = true := by decide +kernel
def al_a139_0 : List ev_V := [(2, 33, 0), (2, 27, 0), (0, 1, 0), (0, 4, 0), (0, 30, 0), (1, 3, 4294967296), (9, 0, 0)]
def E_a139_0 : e2_E := [(2147483648, 2147583648, 0, 0), (2147483652, 2147483668, 1, 0), (2147483648, 2147485248, 2, 0), (2147483648, 2147483678, 3, 0)]
noncomputable def h_a139_0 : ev_H := (an606 : e2_Q8)
noncomputable def cl_a139_e : List (Nat × e2_S) := [(66, e2_cutL (al_a139_0.set 5 (11, 2147483648, 2147483678)) 3 (E_a139_0.take 3) h_a139_0)]
set_option maxRecDepth 1000000 in
theorem ck_a139_e : e2_run (e2_cal S_a139 I_a139 4000 2) (e2_fin rs_a139) e2x_59 (e2_bpL cl_a139_e) (e2_cutA cl_a139_e) 4000 (e2_seek e2x_59 0) (e2_al 7 as_a139) [] E_a139 f_a139 = true := by decide +kernel
noncomputable def cl_a139_0 : List (Nat × e2_S) := [(66, e2_cutL (al_a139_0.set 5 (13, 11, 2147483678)) 3 (E_a139_0.take 3) h_a139_0)]
set_option maxRecDepth 1000000 in
theorem ck_a139_0 : e2_runM (e2_cal S_a139 I_a139 4000 2) (e2_fin rs_a139) e2x_59 (e2_bpL cl_a139_0) (e2_cutA cl_a139_0) 4000 (e2_seek e2x_59 66) al_a139_0 [] E_a139_0 h_a139_0 = true := by decide +kernel
set_option maxRecDepth 1000000 in
theorem ci_a139_0 : e2_idl 3 (al_a139_0.set 5 (9, 0, 0)) = true := by decide +kernel
set_option maxRecDepth 1000000 in
theorem cj_a139_0 : e2_idh 3 8 h_a139_0 = true := by decide +kernel
theorem cs_a139 (hen : en_ok) (l : Launch) (hh : e2_hand_a l) : e2_smOk l 135 s_a139 := by
  refine e2_conG (H := 132) (n := 2) (C := evd_59) (S := S_a139) (I := I_a139) (fuel := 4000) hen ei_59 (e2_fa ((cs_a37 hen l hh).mono (by decide)) (e2_fa (cs_a138 hen l hh) e2_fz)) (e2_fa ein_19 (e2_fa ein_20 (e2_fa ein_60 e2_fz))) (by decide) co_a139 fun M d _ hC hcall p e R s m args below meth c Q D cA A ads r0 ha hl0 => ?_
  have L_0 : e2_gdM M p l e R s m args below meth c Q D cA A ads r0 66 al_a139_0 [] E_a139_0 h_a139_0 := by
    refine e2_indL (u := 3) (j := 5) (lo := 2147483648) (hi := 2147483678) (b := 3) (dd := 0) hl0 (by decide) rfl rfl (Or.inr ⟨rfl, rfl⟩) rfl ci_a139_0 cj_a139_0 ?_
    intro r_0 k_0 hk_0 hp_0 hs_0 hn_0
    have hl_0 : r_0.length ≤ 4 := hs_0.len rfl
    have ha_0 := ha.ext hp_0
    exact e2_fromM hen ha_0 hcall (e2_cutA_ok (e2_fa (fun al st E h hc => hn_0 al st E h hc) e2_fz)) (hC []) (X := e2x_59) ex2_59 66 ck_a139_0
  have EN_0 := e2_entL (u := 3) (j := 5) (lo := 2147483648) (hi := 2147483678) hl0 rfl rfl rfl ci_a139_0 cj_a139_0 L_0
  exact e2_from hen ha hcall (e2_cutA_ok (e2_fa (fun al st E h hc => EN_0 al st E h hc) e2_fz)) (hC []) (X := e2x_59) ex2_59 0 ck_a139_e
/-! a140 X3_parseLevel -/
def as_a140 : List ev_V := [(2, 33, 0), (2, 27, 0), (0, 0, 0), (0, 4, 0)]
def E_a140 : e2_E := [(2147483648, 2147583648, 0, 0), (2147483652, 2147483668, 1, 0), (2147483648, 2147485248, 2, 0)]
noncomputable def f_a140 : ev_H := (an606 : e2_Q8)
noncomputable def q_a140_0 : ev_H := (an606 : e2_Q8)
noncomputable def rs_a140 : e2_Rs := [((11, 2147483648, 2147483649), q_a140_0)]
noncomputable def s_a140 : e2_Sm := (59, as_a140, E_a140, f_a140, rs_a140)
noncomputable def S_a140 : List e2_Sm := [s_a37, s_a139]
noncomputable def I_a140 : List e2_In := [(19, 2, e2x_19), (20, 2, e2x_20), (60, 1, e2x_60)]
set_option maxRecDepth 1000000 in
theorem co_a140 : e2_okSB E_a140.length as_a140 f_a140 rs_a140 = true := by decide +kernel
def al_a140_0 : List ev_V := [(2, 33, 0), (2, 27, 0), (0, 0, 0), (0, 4, 0), (0, 30, 0), (1, 3, 4294967296), (9, 0, 0)]
def E_a140_0 : e2_E := [(2147483648, 2147583648, 0, 0), (2147483652, 2147483668, 1, 0), (2147483648, 2147485248, 2, 0), (2147483648, 2147483678, 3, 0)]
noncomputable def h_a140_0 : ev_H := (an606 : e2_Q8)
noncomputable def cl_a140_e : List (Nat × e2_S) := [(66, e2_cutL (al_a140_0.set 5 (11, 2147483648, 2147483678)) 3 (E_a140_0.take 3) h_a140_0)]
set_option maxRecDepth 1000000 in
theorem ck_a140_e : e2_run (e2_cal S_a140 I_a140 4000 2) (e2_fin rs_a140) e2x_59 (e2_bpL cl_a140_e) (e2_cutA cl_a140_e) 4000 (e2_seek e2x_59 0) (e2_al 7 as_a140) [] E_a140 f_a140 = true := by decide +kernel
noncomputable def cl_a140_0 : List (Nat × e2_S) := [(66, e2_cutL (al_a140_0.set 5 (13, 11, 2147483678)) 3 (E_a140_0.take 3) h_a140_0)]
set_option maxRecDepth 1000000 in
theorem ck_a140_0 : e2_runM (e2_cal S_a140 I_a140 4000 2) (e2_fin rs_a140) e2x_59 (e2_bpL cl_a140_0) (e2_cutA cl_a140_0) 4000 (e2_seek e2x_59 66) al_a140_0 [] E_a140_0 h_a140_0 = true := by decide +kernel
set_option maxRecDepth 1000000 in
theorem ci_a140_0 : e2_idl 3 (al_a140_0.set 5 (9, 0, 0)) = true := by decide +kernel
set_option maxRecDepth 1000000 in
theorem cj_a140_0 : e2_idh 3 8 h_a140_0 = true := by decide +kernel
theorem cs_a140 (hen : en_ok) (l : Launch) (hh : e2_hand_a l) : e2_smOk l 138 s_a140 := by
  refine e2_conG (H := 135) (n := 2) (C := evd_59) (S := S_a140) (I := I_a140) (fuel := 4000) hen ei_59 (e2_fa ((cs_a37 hen l hh).mono (by decide)) (e2_fa (cs_a139 hen l hh) e2_fz)) (e2_fa ein_19 (e2_fa ein_20 (e2_fa ein_60 e2_fz))) (by decide) co_a140 fun M d _ hC hcall p e R s m args below meth c Q D cA A ads r0 ha hl0 => ?_
  have L_0 : e2_gdM M p l e R s m args below meth c Q D cA A ads r0 66 al_a140_0 [] E_a140_0 h_a140_0 := by
    refine e2_indL (u := 3) (j := 5) (lo := 2147483648) (hi := 2147483678) (b := 3) (dd := 0) hl0 (by decide) rfl rfl (Or.inr ⟨rfl, rfl⟩) rfl ci_a140_0 cj_a140_0 ?_
    intro r_0 k_0 hk_0 hp_0 hs_0 hn_0
    have hl_0 : r_0.length ≤ 4 := hs_0.len rfl
    have ha_0 := ha.ext hp_0
    exact e2_fromM hen ha_0 hcall (e2_cutA_ok (e2_fa (fun al st E h hc => hn_0 al st E h hc) e2_fz)) (hC []) (X := e2x_59) ex2_59 66 ck_a140_0
  have EN_0 := e2_entL (u := 3) (j := 5) (lo := 2147483648) (hi := 2147483678) hl0 rfl rfl rfl ci_a140_0 cj_a140_0 L_0
  exact e2_from hen ha hcall (e2_cutA_ok (e2_fa (fun al st E h hc => EN_0 al st E h hc) e2_fz)) (hC []) (X := e2x_59) ex2_59 0 ck_a140_e
/-! a141 X3_parseUnit -/
def as_a141 : List ev_V := [(2, 33, 0), (2, 27, 0), (0, 3, 0)]
def E_a141 : e2_E := [(2147483648, 2147583648, 0, 0), (2147483652, 2147483668, 1, 0), (2147483648, 2147485248, 2, 0)]
noncomputable def f_a141 : ev_H := (an606 : e2_Q8)
noncomputable def q_a141_0 : ev_H := (an606 : e2_Q8)
noncomputable def rs_a141 : e2_Rs := [((11, 2147483648, 2147483649), q_a141_0)]
noncomputable def s_a141 : e2_Sm := (62, as_a141, E_a141, f_a141, rs_a141)
noncomputable def S_a141 : List e2_Sm := [s_a37, s_a38, s_a140]
noncomputable def I_a141 : List e2_In := [(18, 2, e2x_18), (19, 2, e2x_19), (20, 2, e2x_20), (43, 2, e2x_43), (44, 3, e2x_44)]
set_option maxRecDepth 1000000 in
theorem ck_a141 : e2_run (e2_cal S_a141 I_a141 4000 2) (e2_fin rs_a141) e2x_62 (fun _ => false) (fun _ _ _ _ _ => false) 4000 (e2_seek e2x_62 0) (e2_al 7 as_a141) [] E_a141 f_a141 = true := by decide +kernel
set_option maxRecDepth 1000000 in
theorem co_a141 : e2_okSB E_a141.length as_a141 f_a141 rs_a141 = true := by decide +kernel
theorem cs_a141 (hen : en_ok) (l : Launch) (hh : e2_hand_a l) : e2_smOk l 141 s_a141 := e2_con0 (H := 138) (n := 2) (C := evd_62) (S := S_a141) (I := I_a141) (fuel := 4000) [] hen ei_62 (e2_fa ((cs_a37 hen l hh).mono (by decide)) (e2_fa ((cs_a38 hen l hh).mono (by decide)) (e2_fa (cs_a140 hen l hh) e2_fz))) (e2_fa ein_18 (e2_fa ein_19 (e2_fa ein_20 (e2_fa ein_43 (e2_fa ein_44 e2_fz))))) (by decide) co_a141 ex2_62 ck_a141
/-! a142 X3_parseLevel -/
def as_a142 : List ev_V := [(2, 33, 0), (2, 27, 0), (0, 5, 0), (0, 3, 0)]
def E_a142 : e2_E := [(2147483648, 2147583648, 0, 0), (2147483652, 2147483668, 1, 0), (2147483648, 2147485248, 2, 0)]
noncomputable def f_a142 : ev_H := (an606 : e2_Q8)
noncomputable def q_a142_0 : ev_H := (an606 : e2_Q8)
noncomputable def rs_a142 : e2_Rs := [((11, 2147483648, 2147483649), q_a142_0)]
noncomputable def s_a142 : e2_Sm := (59, as_a142, E_a142, f_a142, rs_a142)
noncomputable def S_a142 : List e2_Sm := [s_a141]
noncomputable def I_a142 : List e2_In := []
set_option maxRecDepth 1000000 in
theorem ck_a142 : e2_run (e2_cal S_a142 I_a142 4000 0) (e2_fin rs_a142) e2x_59 (fun _ => false) (fun _ _ _ _ _ => false) 4000 (e2_seek e2x_59 0) (e2_al 7 as_a142) [] E_a142 f_a142 = true := by decide +kernel
set_option maxRecDepth 1000000 in
theorem co_a142 : e2_okSB E_a142.length as_a142 f_a142 rs_a142 = true := by decide +kernel
theorem cs_a142 (hen : en_ok) (l : Launch) (hh : e2_hand_a l) : e2_smOk l 142 s_a142 := e2_con0 (H := 141) (n := 0) (C := evd_59) (S := S_a142) (I := I_a142) (fuel := 4000) [] hen ei_59 (e2_fa (cs_a141 hen l hh) e2_fz) e2_fz (by decide) co_a142 ex2_59 ck_a142
/-! a143 X3_parseLevel -/
def as_a143 : List ev_V := [(2, 33, 0), (2, 27, 0), (0, 4, 0), (0, 3, 0)]
def E_a143 : e2_E := [(2147483648, 2147583648, 0, 0), (2147483652, 2147483668, 1, 0), (2147483648, 2147485248, 2, 0)]
noncomputable def f_a143 : ev_H := (an606 : e2_Q8)
noncomputable def q_a143_0 : ev_H := (an606 : e2_Q8)
noncomputable def rs_a143 : e2_Rs := [((11, 2147483648, 2147483649), q_a143_0)]
noncomputable def s_a143 : e2_Sm := (59, as_a143, E_a143, f_a143, rs_a143)
noncomputable def S_a143 : List e2_Sm := [s_a37, s_a142]
noncomputable def I_a143 : List e2_In := [(19, 2, e2x_19), (20, 2, e2x_20), (60, 1, e2x_60)]
set_option maxRecDepth 1000000 in
theorem co_a143 : e2_okSB E_a143.length as_a143 f_a143 rs_a143 = true := by decide +kernel
def al_a143_0 : List ev_V := [(2, 33, 0), (2, 27, 0), (0, 4, 0), (0, 3, 0), (0, 30, 0), (1, 3, 4294967296), (9, 0, 0)]
def E_a143_0 : e2_E := [(2147483648, 2147583648, 0, 0), (2147483652, 2147483668, 1, 0), (2147483648, 2147485248, 2, 0), (2147483648, 2147483678, 3, 0)]
noncomputable def h_a143_0 : ev_H := (an606 : e2_Q8)
noncomputable def cl_a143_e : List (Nat × e2_S) := [(66, e2_cutL (al_a143_0.set 5 (11, 2147483648, 2147483678)) 3 (E_a143_0.take 3) h_a143_0)]
set_option maxRecDepth 1000000 in
theorem ck_a143_e : e2_run (e2_cal S_a143 I_a143 4000 2) (e2_fin rs_a143) e2x_59 (e2_bpL cl_a143_e) (e2_cutA cl_a143_e) 4000 (e2_seek e2x_59 0) (e2_al 7 as_a143) [] E_a143 f_a143 = true := by decide +kernel
noncomputable def cl_a143_0 : List (Nat × e2_S) := [(66, e2_cutL (al_a143_0.set 5 (13, 11, 2147483678)) 3 (E_a143_0.take 3) h_a143_0)]
set_option maxRecDepth 1000000 in
theorem ck_a143_0 : e2_runM (e2_cal S_a143 I_a143 4000 2) (e2_fin rs_a143) e2x_59 (e2_bpL cl_a143_0) (e2_cutA cl_a143_0) 4000 (e2_seek e2x_59 66) al_a143_0 [] E_a143_0 h_a143_0 = true := by decide +kernel
set_option maxRecDepth 1000000 in
theorem ci_a143_0 : e2_idl 3 (al_a143_0.set 5 (9, 0, 0)) = true := by decide +kernel
set_option maxRecDepth 1000000 in
theorem cj_a143_0 : e2_idh 3 8 h_a143_0 = true := by decide +kernel
theorem cs_a143 (hen : en_ok) (l : Launch) (hh : e2_hand_a l) : e2_smOk l 145 s_a143 := by
  refine e2_conG (H := 142) (n := 2) (C := evd_59) (S := S_a143) (I := I_a143) (fuel := 4000) hen ei_59 (e2_fa ((cs_a37 hen l hh).mono (by decide)) (e2_fa (cs_a142 hen l hh) e2_fz)) (e2_fa ein_19 (e2_fa ein_20 (e2_fa ein_60 e2_fz))) (by decide) co_a143 fun M d _ hC hcall p e R s m args below meth c Q D cA A ads r0 ha hl0 => ?_
  have L_0 : e2_gdM M p l e R s m args below meth c Q D cA A ads r0 66 al_a143_0 [] E_a143_0 h_a143_0 := by
    refine e2_indL (u := 3) (j := 5) (lo := 2147483648) (hi := 2147483678) (b := 3) (dd := 0) hl0 (by decide) rfl rfl (Or.inr ⟨rfl, rfl⟩) rfl ci_a143_0 cj_a143_0 ?_
    intro r_0 k_0 hk_0 hp_0 hs_0 hn_0
    have hl_0 : r_0.length ≤ 4 := hs_0.len rfl
    have ha_0 := ha.ext hp_0
    exact e2_fromM hen ha_0 hcall (e2_cutA_ok (e2_fa (fun al st E h hc => hn_0 al st E h hc) e2_fz)) (hC []) (X := e2x_59) ex2_59 66 ck_a143_0
  have EN_0 := e2_entL (u := 3) (j := 5) (lo := 2147483648) (hi := 2147483678) hl0 rfl rfl rfl ci_a143_0 cj_a143_0 L_0
  exact e2_from hen ha hcall (e2_cutA_ok (e2_fa (fun al st E h hc => EN_0 al st E h hc) e2_fz)) (hC []) (X := e2x_59) ex2_59 0 ck_a143_e
/-! a144 X3_parseLevel -/
def as_a144 : List ev_V := [(2, 33, 0), (2, 27, 0), (0, 3, 0), (0, 3, 0)]
def E_a144 : e2_E := [(2147483648, 2147583648, 0, 0), (2147483652, 2147483668, 1, 0), (2147483648, 2147485248, 2, 0)]
noncomputable def f_a144 : ev_H := (an606 : e2_Q8)
noncomputable def q_a144_0 : ev_H := (an606 : e2_Q8)
noncomputable def rs_a144 : e2_Rs := [((11, 2147483648, 2147483649), q_a144_0)]
noncomputable def s_a144 : e2_Sm := (59, as_a144, E_a144, f_a144, rs_a144)
noncomputable def S_a144 : List e2_Sm := [s_a37, s_a143]
noncomputable def I_a144 : List e2_In := [(19, 2, e2x_19), (20, 2, e2x_20), (60, 1, e2x_60)]
set_option maxRecDepth 1000000 in
theorem co_a144 : e2_okSB E_a144.length as_a144 f_a144 rs_a144 = true := by decide +kernel
def al_a144_0 : List ev_V := [(2, 33, 0), (2, 27, 0), (0, 3, 0), (0, 3, 0), (0, 30, 0), (1, 3, 4294967296), (9, 0, 0)]
def E_a144_0 : e2_E := [(2147483648, 2147583648, 0, 0), (2147483652, 2147483668, 1, 0), (2147483648, 2147485248, 2, 0), (2147483648, 2147483678, 3, 0)]
noncomputable def h_a144_0 : ev_H := (an606 : e2_Q8)
noncomputable def cl_a144_e : List (Nat × e2_S) := [(66, e2_cutL (al_a144_0.set 5 (11, 2147483648, 2147483678)) 3 (E_a144_0.take 3) h_a144_0)]
set_option maxRecDepth 1000000 in
theorem ck_a144_e : e2_run (e2_cal S_a144 I_a144 4000 2) (e2_fin rs_a144) e2x_59 (e2_bpL cl_a144_e) (e2_cutA cl_a144_e) 4000 (e2_seek e2x_59 0) (e2_al 7 as_a144) [] E_a144 f_a144 = true := by decide +kernel
noncomputable def cl_a144_0 : List (Nat × e2_S) := [(66, e2_cutL (al_a144_0.set 5 (13, 11, 2147483678)) 3 (E_a144_0.take 3) h_a144_0)]
set_option maxRecDepth 1000000 in
theorem ck_a144_0 : e2_runM (e2_cal S_a144 I_a144 4000 2) (e2_fin rs_a144) e2x_59 (e2_bpL cl_a144_0) (e2_cutA cl_a144_0) 4000 (e2_seek e2x_59 66) al_a144_0 [] E_a144_0 h_a144_0 = true := by decide +kernel
set_option maxRecDepth 1000000 in
theorem ci_a144_0 : e2_idl 3 (al_a144_0.set 5 (9, 0, 0)) = true := by decide +kernel
set_option maxRecDepth 1000000 in
theorem cj_a144_0 : e2_idh 3 8 h_a144_0 = true := by decide +kernel
theorem cs_a144 (hen : en_ok) (l : Launch) (hh : e2_hand_a l) : e2_smOk l 148 s_a144 := by
  refine e2_conG (H := 145) (n := 2) (C := evd_59) (S := S_a144) (I := I_a144) (fuel := 4000) hen ei_59 (e2_fa ((cs_a37 hen l hh).mono (by decide)) (e2_fa (cs_a143 hen l hh) e2_fz)) (e2_fa ein_19 (e2_fa ein_20 (e2_fa ein_60 e2_fz))) (by decide) co_a144 fun M d _ hC hcall p e R s m args below meth c Q D cA A ads r0 ha hl0 => ?_
  have L_0 : e2_gdM M p l e R s m args below meth c Q D cA A ads r0 66 al_a144_0 [] E_a144_0 h_a144_0 := by
    refine e2_indL (u := 3) (j := 5) (lo := 2147483648) (hi := 2147483678) (b := 3) (dd := 0) hl0 (by decide) rfl rfl (Or.inr ⟨rfl, rfl⟩) rfl ci_a144_0 cj_a144_0 ?_
    intro r_0 k_0 hk_0 hp_0 hs_0 hn_0
    have hl_0 : r_0.length ≤ 4 := hs_0.len rfl
    have ha_0 := ha.ext hp_0
    exact e2_fromM hen ha_0 hcall (e2_cutA_ok (e2_fa (fun al st E h hc => hn_0 al st E h hc) e2_fz)) (hC []) (X := e2x_59) ex2_59 66 ck_a144_0
  have EN_0 := e2_entL (u := 3) (j := 5) (lo := 2147483648) (hi := 2147483678) hl0 rfl rfl rfl ci_a144_0 cj_a144_0 L_0
  exact e2_from hen ha hcall (e2_cutA_ok (e2_fa (fun al st E h hc => EN_0 al st E h hc) e2_fz)) (hC []) (X := e2x_59) ex2_59 0 ck_a144_e
/-! a145 X3_parseNot -/
def as_a145 : List ev_V := [(2, 33, 0), (2, 27, 0), (0, 3, 0)]
def E_a145 : e2_E := [(2147483648, 2147583648, 0, 0), (2147483652, 2147483668, 1, 0), (2147483648, 2147485248, 2, 0)]
noncomputable def f_a145 : ev_H := (an606 : e2_Q8)
noncomputable def q_a145_0 : ev_H := (an606 : e2_Q8)
noncomputable def rs_a145 : e2_Rs := [((11, 2147483648, 2147483649), q_a145_0)]
noncomputable def s_a145 : e2_Sm := (61, as_a145, E_a145, f_a145, rs_a145)
noncomputable def S_a145 : List e2_Sm := [s_a37, s_a138]
noncomputable def I_a145 : List e2_In := [(19, 2, e2x_19), (20, 2, e2x_20)]
set_option maxRecDepth 1000000 in
theorem ck_a145 : e2_run (e2_cal S_a145 I_a145 4000 2) (e2_fin rs_a145) e2x_61 (fun _ => false) (fun _ _ _ _ _ => false) 4000 (e2_seek e2x_61 0) (e2_al 3 as_a145) [] E_a145 f_a145 = true := by decide +kernel
set_option maxRecDepth 1000000 in
theorem co_a145 : e2_okSB E_a145.length as_a145 f_a145 rs_a145 = true := by decide +kernel
theorem cs_a145 (hen : en_ok) (l : Launch) (hh : e2_hand_a l) : e2_smOk l 135 s_a145 := e2_con0 (H := 132) (n := 2) (C := evd_61) (S := S_a145) (I := I_a145) (fuel := 4000) [] hen ei_61 (e2_fa ((cs_a37 hen l hh).mono (by decide)) (e2_fa (cs_a138 hen l hh) e2_fz)) (e2_fa ein_19 (e2_fa ein_20 e2_fz)) (by decide) co_a145 ex2_61 ck_a145
/-! a146 X3_parseLevel -/
def as_a146 : List ev_V := [(2, 33, 0), (2, 27, 0), (0, 2, 0), (0, 3, 0)]
def E_a146 : e2_E := [(2147483648, 2147583648, 0, 0), (2147483652, 2147483668, 1, 0), (2147483648, 2147485248, 2, 0)]
noncomputable def f_a146 : ev_H := (an606 : e2_Q8)
noncomputable def q_a146_0 : ev_H := (an606 : e2_Q8)
noncomputable def rs_a146 : e2_Rs := [((11, 2147483648, 2147483649), q_a146_0)]
noncomputable def s_a146 : e2_Sm := (59, as_a146, E_a146, f_a146, rs_a146)
noncomputable def S_a146 : List e2_Sm := [s_a37, s_a144, s_a145]
noncomputable def I_a146 : List e2_In := [(19, 2, e2x_19), (20, 2, e2x_20), (60, 1, e2x_60)]
set_option maxRecDepth 1000000 in
theorem co_a146 : e2_okSB E_a146.length as_a146 f_a146 rs_a146 = true := by decide +kernel
def al_a146_0 : List ev_V := [(2, 33, 0), (2, 27, 0), (0, 2, 0), (0, 3, 0), (0, 1, 0), (1, 3, 4294967296), (9, 0, 0)]
def E_a146_0 : e2_E := [(2147483648, 2147583648, 0, 0), (2147483652, 2147483668, 1, 0), (2147483648, 2147485248, 2, 0), (2147483648, 2147483649, 3, 0)]
noncomputable def h_a146_0 : ev_H := (an606 : e2_Q8)
noncomputable def cl_a146_e : List (Nat × e2_S) := [(66, e2_cutL (al_a146_0.set 5 (11, 2147483648, 2147483649)) 3 (E_a146_0.take 3) h_a146_0)]
set_option maxRecDepth 1000000 in
theorem ck_a146_e : e2_run (e2_cal S_a146 I_a146 4000 2) (e2_fin rs_a146) e2x_59 (e2_bpL cl_a146_e) (e2_cutA cl_a146_e) 4000 (e2_seek e2x_59 0) (e2_al 7 as_a146) [] E_a146 f_a146 = true := by decide +kernel
noncomputable def cl_a146_0 : List (Nat × e2_S) := [(66, e2_cutL (al_a146_0.set 5 (13, 11, 2147483649)) 3 (E_a146_0.take 3) h_a146_0)]
set_option maxRecDepth 1000000 in
theorem ck_a146_0 : e2_runM (e2_cal S_a146 I_a146 4000 2) (e2_fin rs_a146) e2x_59 (e2_bpL cl_a146_0) (e2_cutA cl_a146_0) 4000 (e2_seek e2x_59 66) al_a146_0 [] E_a146_0 h_a146_0 = true := by decide +kernel
set_option maxRecDepth 1000000 in
theorem ci_a146_0 : e2_idl 3 (al_a146_0.set 5 (9, 0, 0)) = true := by decide +kernel
set_option maxRecDepth 1000000 in
theorem cj_a146_0 : e2_idh 3 8 h_a146_0 = true := by decide +kernel
theorem cs_a146 (hen : en_ok) (l : Launch) (hh : e2_hand_a l) : e2_smOk l 151 s_a146 := by
  refine e2_conG (H := 148) (n := 2) (C := evd_59) (S := S_a146) (I := I_a146) (fuel := 4000) hen ei_59 (e2_fa ((cs_a37 hen l hh).mono (by decide)) (e2_fa (cs_a144 hen l hh) (e2_fa ((cs_a145 hen l hh).mono (by decide)) e2_fz))) (e2_fa ein_19 (e2_fa ein_20 (e2_fa ein_60 e2_fz))) (by decide) co_a146 fun M d _ hC hcall p e R s m args below meth c Q D cA A ads r0 ha hl0 => ?_
  have L_0 : e2_gdM M p l e R s m args below meth c Q D cA A ads r0 66 al_a146_0 [] E_a146_0 h_a146_0 := by
    refine e2_indL (u := 3) (j := 5) (lo := 2147483648) (hi := 2147483649) (b := 3) (dd := 0) hl0 (by decide) rfl rfl (Or.inr ⟨rfl, rfl⟩) rfl ci_a146_0 cj_a146_0 ?_
    intro r_0 k_0 hk_0 hp_0 hs_0 hn_0
    have hl_0 : r_0.length ≤ 4 := hs_0.len rfl
    have ha_0 := ha.ext hp_0
    exact e2_fromM hen ha_0 hcall (e2_cutA_ok (e2_fa (fun al st E h hc => hn_0 al st E h hc) e2_fz)) (hC []) (X := e2x_59) ex2_59 66 ck_a146_0
  have EN_0 := e2_entL (u := 3) (j := 5) (lo := 2147483648) (hi := 2147483649) hl0 rfl rfl rfl ci_a146_0 cj_a146_0 L_0
  exact e2_from hen ha hcall (e2_cutA_ok (e2_fa (fun al st E h hc => EN_0 al st E h hc) e2_fz)) (hC []) (X := e2x_59) ex2_59 0 ck_a146_e
/-! a147 X3_parseLevel -/
def as_a147 : List ev_V := [(2, 33, 0), (2, 27, 0), (0, 1, 0), (0, 3, 0)]
def E_a147 : e2_E := [(2147483648, 2147583648, 0, 0), (2147483652, 2147483668, 1, 0), (2147483648, 2147485248, 2, 0)]
noncomputable def f_a147 : ev_H := (an606 : e2_Q8)
noncomputable def q_a147_0 : ev_H := (an606 : e2_Q8)
noncomputable def rs_a147 : e2_Rs := [((11, 2147483648, 2147483649), q_a147_0)]
noncomputable def s_a147 : e2_Sm := (59, as_a147, E_a147, f_a147, rs_a147)
noncomputable def S_a147 : List e2_Sm := [s_a37, s_a146]
noncomputable def I_a147 : List e2_In := [(19, 2, e2x_19), (20, 2, e2x_20), (60, 1, e2x_60)]
set_option maxRecDepth 1000000 in
theorem co_a147 : e2_okSB E_a147.length as_a147 f_a147 rs_a147 = true := by decide +kernel
def al_a147_0 : List ev_V := [(2, 33, 0), (2, 27, 0), (0, 1, 0), (0, 3, 0), (0, 30, 0), (1, 3, 4294967296), (9, 0, 0)]
def E_a147_0 : e2_E := [(2147483648, 2147583648, 0, 0), (2147483652, 2147483668, 1, 0), (2147483648, 2147485248, 2, 0), (2147483648, 2147483678, 3, 0)]
noncomputable def h_a147_0 : ev_H := (an606 : e2_Q8)
noncomputable def cl_a147_e : List (Nat × e2_S) := [(66, e2_cutL (al_a147_0.set 5 (11, 2147483648, 2147483678)) 3 (E_a147_0.take 3) h_a147_0)]
set_option maxRecDepth 1000000 in
theorem ck_a147_e : e2_run (e2_cal S_a147 I_a147 4000 2) (e2_fin rs_a147) e2x_59 (e2_bpL cl_a147_e) (e2_cutA cl_a147_e) 4000 (e2_seek e2x_59 0) (e2_al 7 as_a147) [] E_a147 f_a147 = true := by decide +kernel
noncomputable def cl_a147_0 : List (Nat × e2_S) := [(66, e2_cutL (al_a147_0.set 5 (13, 11, 2147483678)) 3 (E_a147_0.take 3) h_a147_0)]
set_option maxRecDepth 1000000 in
theorem ck_a147_0 : e2_runM (e2_cal S_a147 I_a147 4000 2) (e2_fin rs_a147) e2x_59 (e2_bpL cl_a147_0) (e2_cutA cl_a147_0) 4000 (e2_seek e2x_59 66) al_a147_0 [] E_a147_0 h_a147_0 = true := by decide +kernel
set_option maxRecDepth 1000000 in
theorem ci_a147_0 : e2_idl 3 (al_a147_0.set 5 (9, 0, 0)) = true := by decide +kernel
set_option maxRecDepth 1000000 in
theorem cj_a147_0 : e2_idh 3 8 h_a147_0 = true := by decide +kernel
theorem cs_a147 (hen : en_ok) (l : Launch) (hh : e2_hand_a l) : e2_smOk l 154 s_a147 := by
  refine e2_conG (H := 151) (n := 2) (C := evd_59) (S := S_a147) (I := I_a147) (fuel := 4000) hen ei_59 (e2_fa ((cs_a37 hen l hh).mono (by decide)) (e2_fa (cs_a146 hen l hh) e2_fz)) (e2_fa ein_19 (e2_fa ein_20 (e2_fa ein_60 e2_fz))) (by decide) co_a147 fun M d _ hC hcall p e R s m args below meth c Q D cA A ads r0 ha hl0 => ?_
  have L_0 : e2_gdM M p l e R s m args below meth c Q D cA A ads r0 66 al_a147_0 [] E_a147_0 h_a147_0 := by
    refine e2_indL (u := 3) (j := 5) (lo := 2147483648) (hi := 2147483678) (b := 3) (dd := 0) hl0 (by decide) rfl rfl (Or.inr ⟨rfl, rfl⟩) rfl ci_a147_0 cj_a147_0 ?_
    intro r_0 k_0 hk_0 hp_0 hs_0 hn_0
    have hl_0 : r_0.length ≤ 4 := hs_0.len rfl
    have ha_0 := ha.ext hp_0
    exact e2_fromM hen ha_0 hcall (e2_cutA_ok (e2_fa (fun al st E h hc => hn_0 al st E h hc) e2_fz)) (hC []) (X := e2x_59) ex2_59 66 ck_a147_0
  have EN_0 := e2_entL (u := 3) (j := 5) (lo := 2147483648) (hi := 2147483678) hl0 rfl rfl rfl ci_a147_0 cj_a147_0 L_0
  exact e2_from hen ha hcall (e2_cutA_ok (e2_fa (fun al st E h hc => EN_0 al st E h hc) e2_fz)) (hC []) (X := e2x_59) ex2_59 0 ck_a147_e
/-! a148 X3_parseLevel -/
def as_a148 : List ev_V := [(2, 33, 0), (2, 27, 0), (0, 0, 0), (0, 3, 0)]
def E_a148 : e2_E := [(2147483648, 2147583648, 0, 0), (2147483652, 2147483668, 1, 0), (2147483648, 2147485248, 2, 0)]
noncomputable def f_a148 : ev_H := (an606 : e2_Q8)
noncomputable def q_a148_0 : ev_H := (an606 : e2_Q8)
noncomputable def rs_a148 : e2_Rs := [((11, 2147483648, 2147483649), q_a148_0)]
noncomputable def s_a148 : e2_Sm := (59, as_a148, E_a148, f_a148, rs_a148)
noncomputable def S_a148 : List e2_Sm := [s_a37, s_a147]
noncomputable def I_a148 : List e2_In := [(19, 2, e2x_19), (20, 2, e2x_20), (60, 1, e2x_60)]
set_option maxRecDepth 1000000 in
theorem co_a148 : e2_okSB E_a148.length as_a148 f_a148 rs_a148 = true := by decide +kernel
def al_a148_0 : List ev_V := [(2, 33, 0), (2, 27, 0), (0, 0, 0), (0, 3, 0), (0, 30, 0), (1, 3, 4294967296), (9, 0, 0)]
def E_a148_0 : e2_E := [(2147483648, 2147583648, 0, 0), (2147483652, 2147483668, 1, 0), (2147483648, 2147485248, 2, 0), (2147483648, 2147483678, 3, 0)]
noncomputable def h_a148_0 : ev_H := (an606 : e2_Q8)
noncomputable def cl_a148_e : List (Nat × e2_S) := [(66, e2_cutL (al_a148_0.set 5 (11, 2147483648, 2147483678)) 3 (E_a148_0.take 3) h_a148_0)]
set_option maxRecDepth 1000000 in
theorem ck_a148_e : e2_run (e2_cal S_a148 I_a148 4000 2) (e2_fin rs_a148) e2x_59 (e2_bpL cl_a148_e) (e2_cutA cl_a148_e) 4000 (e2_seek e2x_59 0) (e2_al 7 as_a148) [] E_a148 f_a148 = true := by decide +kernel
noncomputable def cl_a148_0 : List (Nat × e2_S) := [(66, e2_cutL (al_a148_0.set 5 (13, 11, 2147483678)) 3 (E_a148_0.take 3) h_a148_0)]
set_option maxRecDepth 1000000 in
theorem ck_a148_0 : e2_runM (e2_cal S_a148 I_a148 4000 2) (e2_fin rs_a148) e2x_59 (e2_bpL cl_a148_0) (e2_cutA cl_a148_0) 4000 (e2_seek e2x_59 66) al_a148_0 [] E_a148_0 h_a148_0 = true := by decide +kernel
set_option maxRecDepth 1000000 in
theorem ci_a148_0 : e2_idl 3 (al_a148_0.set 5 (9, 0, 0)) = true := by decide +kernel
set_option maxRecDepth 1000000 in
theorem cj_a148_0 : e2_idh 3 8 h_a148_0 = true := by decide +kernel
theorem cs_a148 (hen : en_ok) (l : Launch) (hh : e2_hand_a l) : e2_smOk l 157 s_a148 := by
  refine e2_conG (H := 154) (n := 2) (C := evd_59) (S := S_a148) (I := I_a148) (fuel := 4000) hen ei_59 (e2_fa ((cs_a37 hen l hh).mono (by decide)) (e2_fa (cs_a147 hen l hh) e2_fz)) (e2_fa ein_19 (e2_fa ein_20 (e2_fa ein_60 e2_fz))) (by decide) co_a148 fun M d _ hC hcall p e R s m args below meth c Q D cA A ads r0 ha hl0 => ?_
  have L_0 : e2_gdM M p l e R s m args below meth c Q D cA A ads r0 66 al_a148_0 [] E_a148_0 h_a148_0 := by
    refine e2_indL (u := 3) (j := 5) (lo := 2147483648) (hi := 2147483678) (b := 3) (dd := 0) hl0 (by decide) rfl rfl (Or.inr ⟨rfl, rfl⟩) rfl ci_a148_0 cj_a148_0 ?_
    intro r_0 k_0 hk_0 hp_0 hs_0 hn_0
    have hl_0 : r_0.length ≤ 4 := hs_0.len rfl
    have ha_0 := ha.ext hp_0
    exact e2_fromM hen ha_0 hcall (e2_cutA_ok (e2_fa (fun al st E h hc => hn_0 al st E h hc) e2_fz)) (hC []) (X := e2x_59) ex2_59 66 ck_a148_0
  have EN_0 := e2_entL (u := 3) (j := 5) (lo := 2147483648) (hi := 2147483678) hl0 rfl rfl rfl ci_a148_0 cj_a148_0 L_0
  exact e2_from hen ha hcall (e2_cutA_ok (e2_fa (fun al st E h hc => EN_0 al st E h hc) e2_fz)) (hC []) (X := e2x_59) ex2_59 0 ck_a148_e
/-! a149 X3_parseUnit -/
def as_a149 : List ev_V := [(2, 33, 0), (2, 27, 0), (0, 2, 0)]
def E_a149 : e2_E := [(2147483648, 2147583648, 0, 0), (2147483652, 2147483668, 1, 0), (2147483648, 2147485248, 2, 0)]
noncomputable def f_a149 : ev_H := (an606 : e2_Q8)
noncomputable def q_a149_0 : ev_H := (an606 : e2_Q8)
noncomputable def rs_a149 : e2_Rs := [((11, 2147483648, 2147483649), q_a149_0)]
noncomputable def s_a149 : e2_Sm := (62, as_a149, E_a149, f_a149, rs_a149)
noncomputable def S_a149 : List e2_Sm := [s_a37, s_a38, s_a148]
noncomputable def I_a149 : List e2_In := [(18, 2, e2x_18), (19, 2, e2x_19), (20, 2, e2x_20), (43, 2, e2x_43), (44, 3, e2x_44)]
set_option maxRecDepth 1000000 in
theorem ck_a149 : e2_run (e2_cal S_a149 I_a149 4000 2) (e2_fin rs_a149) e2x_62 (fun _ => false) (fun _ _ _ _ _ => false) 4000 (e2_seek e2x_62 0) (e2_al 7 as_a149) [] E_a149 f_a149 = true := by decide +kernel
set_option maxRecDepth 1000000 in
theorem co_a149 : e2_okSB E_a149.length as_a149 f_a149 rs_a149 = true := by decide +kernel
theorem cs_a149 (hen : en_ok) (l : Launch) (hh : e2_hand_a l) : e2_smOk l 160 s_a149 := e2_con0 (H := 157) (n := 2) (C := evd_62) (S := S_a149) (I := I_a149) (fuel := 4000) [] hen ei_62 (e2_fa ((cs_a37 hen l hh).mono (by decide)) (e2_fa ((cs_a38 hen l hh).mono (by decide)) (e2_fa (cs_a148 hen l hh) e2_fz))) (e2_fa ein_18 (e2_fa ein_19 (e2_fa ein_20 (e2_fa ein_43 (e2_fa ein_44 e2_fz))))) (by decide) co_a149 ex2_62 ck_a149
/-! a150 X3_parseLevel -/
def as_a150 : List ev_V := [(2, 33, 0), (2, 27, 0), (0, 5, 0), (0, 2, 0)]
def E_a150 : e2_E := [(2147483648, 2147583648, 0, 0), (2147483652, 2147483668, 1, 0), (2147483648, 2147485248, 2, 0)]
noncomputable def f_a150 : ev_H := (an606 : e2_Q8)
noncomputable def q_a150_0 : ev_H := (an606 : e2_Q8)
noncomputable def rs_a150 : e2_Rs := [((11, 2147483648, 2147483649), q_a150_0)]
noncomputable def s_a150 : e2_Sm := (59, as_a150, E_a150, f_a150, rs_a150)
noncomputable def S_a150 : List e2_Sm := [s_a149]
noncomputable def I_a150 : List e2_In := []
set_option maxRecDepth 1000000 in
theorem ck_a150 : e2_run (e2_cal S_a150 I_a150 4000 0) (e2_fin rs_a150) e2x_59 (fun _ => false) (fun _ _ _ _ _ => false) 4000 (e2_seek e2x_59 0) (e2_al 7 as_a150) [] E_a150 f_a150 = true := by decide +kernel
set_option maxRecDepth 1000000 in
theorem co_a150 : e2_okSB E_a150.length as_a150 f_a150 rs_a150 = true := by decide +kernel
theorem cs_a150 (hen : en_ok) (l : Launch) (hh : e2_hand_a l) : e2_smOk l 161 s_a150 := e2_con0 (H := 160) (n := 0) (C := evd_59) (S := S_a150) (I := I_a150) (fuel := 4000) [] hen ei_59 (e2_fa (cs_a149 hen l hh) e2_fz) e2_fz (by decide) co_a150 ex2_59 ck_a150
/-! a151 X3_parseLevel -/
def as_a151 : List ev_V := [(2, 33, 0), (2, 27, 0), (0, 4, 0), (0, 2, 0)]
def E_a151 : e2_E := [(2147483648, 2147583648, 0, 0), (2147483652, 2147483668, 1, 0), (2147483648, 2147485248, 2, 0)]
noncomputable def f_a151 : ev_H := (an606 : e2_Q8)
noncomputable def q_a151_0 : ev_H := (an606 : e2_Q8)
noncomputable def rs_a151 : e2_Rs := [((11, 2147483648, 2147483649), q_a151_0)]
noncomputable def s_a151 : e2_Sm := (59, as_a151, E_a151, f_a151, rs_a151)
noncomputable def S_a151 : List e2_Sm := [s_a37, s_a150]
noncomputable def I_a151 : List e2_In := [(19, 2, e2x_19), (20, 2, e2x_20), (60, 1, e2x_60)]
set_option maxRecDepth 1000000 in
theorem co_a151 : e2_okSB E_a151.length as_a151 f_a151 rs_a151 = true := by decide +kernel
def al_a151_0 : List ev_V := [(2, 33, 0), (2, 27, 0), (0, 4, 0), (0, 2, 0), (0, 30, 0), (1, 3, 4294967296), (9, 0, 0)]
def E_a151_0 : e2_E := [(2147483648, 2147583648, 0, 0), (2147483652, 2147483668, 1, 0), (2147483648, 2147485248, 2, 0), (2147483648, 2147483678, 3, 0)]
noncomputable def h_a151_0 : ev_H := (an606 : e2_Q8)
noncomputable def cl_a151_e : List (Nat × e2_S) := [(66, e2_cutL (al_a151_0.set 5 (11, 2147483648, 2147483678)) 3 (E_a151_0.take 3) h_a151_0)]
set_option maxRecDepth 1000000 in
theorem ck_a151_e : e2_run (e2_cal S_a151 I_a151 4000 2) (e2_fin rs_a151) e2x_59 (e2_bpL cl_a151_e) (e2_cutA cl_a151_e) 4000 (e2_seek e2x_59 0) (e2_al 7 as_a151) [] E_a151 f_a151 = true := by decide +kernel
noncomputable def cl_a151_0 : List (Nat × e2_S) := [(66, e2_cutL (al_a151_0.set 5 (13, 11, 2147483678)) 3 (E_a151_0.take 3) h_a151_0)]
set_option maxRecDepth 1000000 in
theorem ck_a151_0 : e2_runM (e2_cal S_a151 I_a151 4000 2) (e2_fin rs_a151) e2x_59 (e2_bpL cl_a151_0) (e2_cutA cl_a151_0) 4000 (e2_seek e2x_59 66) al_a151_0 [] E_a151_0 h_a151_0 = true := by decide +kernel
set_option maxRecDepth 1000000 in
theorem ci_a151_0 : e2_idl 3 (al_a151_0.set 5 (9, 0, 0)) = true := by decide +kernel
set_option maxRecDepth 1000000 in
theorem cj_a151_0 : e2_idh 3 8 h_a151_0 = true := by decide +kernel
theorem cs_a151 (hen : en_ok) (l : Launch) (hh : e2_hand_a l) : e2_smOk l 164 s_a151 := by
  refine e2_conG (H := 161) (n := 2) (C := evd_59) (S := S_a151) (I := I_a151) (fuel := 4000) hen ei_59 (e2_fa ((cs_a37 hen l hh).mono (by decide)) (e2_fa (cs_a150 hen l hh) e2_fz)) (e2_fa ein_19 (e2_fa ein_20 (e2_fa ein_60 e2_fz))) (by decide) co_a151 fun M d _ hC hcall p e R s m args below meth c Q D cA A ads r0 ha hl0 => ?_
  have L_0 : e2_gdM M p l e R s m args below meth c Q D cA A ads r0 66 al_a151_0 [] E_a151_0 h_a151_0 := by
    refine e2_indL (u := 3) (j := 5) (lo := 2147483648) (hi := 2147483678) (b := 3) (dd := 0) hl0 (by decide) rfl rfl (Or.inr ⟨rfl, rfl⟩) rfl ci_a151_0 cj_a151_0 ?_
    intro r_0 k_0 hk_0 hp_0 hs_0 hn_0
    have hl_0 : r_0.length ≤ 4 := hs_0.len rfl
    have ha_0 := ha.ext hp_0
    exact e2_fromM hen ha_0 hcall (e2_cutA_ok (e2_fa (fun al st E h hc => hn_0 al st E h hc) e2_fz)) (hC []) (X := e2x_59) ex2_59 66 ck_a151_0
  have EN_0 := e2_entL (u := 3) (j := 5) (lo := 2147483648) (hi := 2147483678) hl0 rfl rfl rfl ci_a151_0 cj_a151_0 L_0
  exact e2_from hen ha hcall (e2_cutA_ok (e2_fa (fun al st E h hc => EN_0 al st E h hc) e2_fz)) (hC []) (X := e2x_59) ex2_59 0 ck_a151_e
/-! a152 X3_parseLevel -/
def as_a152 : List ev_V := [(2, 33, 0), (2, 27, 0), (0, 3, 0), (0, 2, 0)]
def E_a152 : e2_E := [(2147483648, 2147583648, 0, 0), (2147483652, 2147483668, 1, 0), (2147483648, 2147485248, 2, 0)]
noncomputable def f_a152 : ev_H := (an606 : e2_Q8)
noncomputable def q_a152_0 : ev_H := (an606 : e2_Q8)
noncomputable def rs_a152 : e2_Rs := [((11, 2147483648, 2147483649), q_a152_0)]
noncomputable def s_a152 : e2_Sm := (59, as_a152, E_a152, f_a152, rs_a152)
noncomputable def S_a152 : List e2_Sm := [s_a37, s_a151]
noncomputable def I_a152 : List e2_In := [(19, 2, e2x_19), (20, 2, e2x_20), (60, 1, e2x_60)]
set_option maxRecDepth 1000000 in
theorem co_a152 : e2_okSB E_a152.length as_a152 f_a152 rs_a152 = true := by decide +kernel
def al_a152_0 : List ev_V := [(2, 33, 0), (2, 27, 0), (0, 3, 0), (0, 2, 0), (0, 30, 0), (1, 3, 4294967296), (9, 0, 0)]
def E_a152_0 : e2_E := [(2147483648, 2147583648, 0, 0), (2147483652, 2147483668, 1, 0), (2147483648, 2147485248, 2, 0), (2147483648, 2147483678, 3, 0)]
noncomputable def h_a152_0 : ev_H := (an606 : e2_Q8)
noncomputable def cl_a152_e : List (Nat × e2_S) := [(66, e2_cutL (al_a152_0.set 5 (11, 2147483648, 2147483678)) 3 (E_a152_0.take 3) h_a152_0)]
set_option maxRecDepth 1000000 in
theorem ck_a152_e : e2_run (e2_cal S_a152 I_a152 4000 2) (e2_fin rs_a152) e2x_59 (e2_bpL cl_a152_e) (e2_cutA cl_a152_e) 4000 (e2_seek e2x_59 0) (e2_al 7 as_a152) [] E_a152 f_a152 = true := by decide +kernel
noncomputable def cl_a152_0 : List (Nat × e2_S) := [(66, e2_cutL (al_a152_0.set 5 (13, 11, 2147483678)) 3 (E_a152_0.take 3) h_a152_0)]
set_option maxRecDepth 1000000 in
theorem ck_a152_0 : e2_runM (e2_cal S_a152 I_a152 4000 2) (e2_fin rs_a152) e2x_59 (e2_bpL cl_a152_0) (e2_cutA cl_a152_0) 4000 (e2_seek e2x_59 66) al_a152_0 [] E_a152_0 h_a152_0 = true := by decide +kernel
set_option maxRecDepth 1000000 in
theorem ci_a152_0 : e2_idl 3 (al_a152_0.set 5 (9, 0, 0)) = true := by decide +kernel
set_option maxRecDepth 1000000 in
theorem cj_a152_0 : e2_idh 3 8 h_a152_0 = true := by decide +kernel
theorem cs_a152 (hen : en_ok) (l : Launch) (hh : e2_hand_a l) : e2_smOk l 167 s_a152 := by
  refine e2_conG (H := 164) (n := 2) (C := evd_59) (S := S_a152) (I := I_a152) (fuel := 4000) hen ei_59 (e2_fa ((cs_a37 hen l hh).mono (by decide)) (e2_fa (cs_a151 hen l hh) e2_fz)) (e2_fa ein_19 (e2_fa ein_20 (e2_fa ein_60 e2_fz))) (by decide) co_a152 fun M d _ hC hcall p e R s m args below meth c Q D cA A ads r0 ha hl0 => ?_
  have L_0 : e2_gdM M p l e R s m args below meth c Q D cA A ads r0 66 al_a152_0 [] E_a152_0 h_a152_0 := by
    refine e2_indL (u := 3) (j := 5) (lo := 2147483648) (hi := 2147483678) (b := 3) (dd := 0) hl0 (by decide) rfl rfl (Or.inr ⟨rfl, rfl⟩) rfl ci_a152_0 cj_a152_0 ?_
    intro r_0 k_0 hk_0 hp_0 hs_0 hn_0
    have hl_0 : r_0.length ≤ 4 := hs_0.len rfl
    have ha_0 := ha.ext hp_0
    exact e2_fromM hen ha_0 hcall (e2_cutA_ok (e2_fa (fun al st E h hc => hn_0 al st E h hc) e2_fz)) (hC []) (X := e2x_59) ex2_59 66 ck_a152_0
  have EN_0 := e2_entL (u := 3) (j := 5) (lo := 2147483648) (hi := 2147483678) hl0 rfl rfl rfl ci_a152_0 cj_a152_0 L_0
  exact e2_from hen ha hcall (e2_cutA_ok (e2_fa (fun al st E h hc => EN_0 al st E h hc) e2_fz)) (hC []) (X := e2x_59) ex2_59 0 ck_a152_e
/-! a153 X3_parseNot -/
def as_a153 : List ev_V := [(2, 33, 0), (2, 27, 0), (0, 2, 0)]
def E_a153 : e2_E := [(2147483648, 2147583648, 0, 0), (2147483652, 2147483668, 1, 0), (2147483648, 2147485248, 2, 0)]
noncomputable def f_a153 : ev_H := (an606 : e2_Q8)
noncomputable def q_a153_0 : ev_H := (an606 : e2_Q8)
noncomputable def rs_a153 : e2_Rs := [((11, 2147483648, 2147483649), q_a153_0)]
noncomputable def s_a153 : e2_Sm := (61, as_a153, E_a153, f_a153, rs_a153)
noncomputable def S_a153 : List e2_Sm := [s_a37, s_a146]
noncomputable def I_a153 : List e2_In := [(19, 2, e2x_19), (20, 2, e2x_20)]
set_option maxRecDepth 1000000 in
theorem ck_a153 : e2_run (e2_cal S_a153 I_a153 4000 2) (e2_fin rs_a153) e2x_61 (fun _ => false) (fun _ _ _ _ _ => false) 4000 (e2_seek e2x_61 0) (e2_al 3 as_a153) [] E_a153 f_a153 = true := by decide +kernel
set_option maxRecDepth 1000000 in
theorem co_a153 : e2_okSB E_a153.length as_a153 f_a153 rs_a153 = true := by decide +kernel
theorem cs_a153 (hen : en_ok) (l : Launch) (hh : e2_hand_a l) : e2_smOk l 154 s_a153 := e2_con0 (H := 151) (n := 2) (C := evd_61) (S := S_a153) (I := I_a153) (fuel := 4000) [] hen ei_61 (e2_fa ((cs_a37 hen l hh).mono (by decide)) (e2_fa (cs_a146 hen l hh) e2_fz)) (e2_fa ein_19 (e2_fa ein_20 e2_fz)) (by decide) co_a153 ex2_61 ck_a153
/-! a154 X3_parseLevel -/
def as_a154 : List ev_V := [(2, 33, 0), (2, 27, 0), (0, 2, 0), (0, 2, 0)]
def E_a154 : e2_E := [(2147483648, 2147583648, 0, 0), (2147483652, 2147483668, 1, 0), (2147483648, 2147485248, 2, 0)]
noncomputable def f_a154 : ev_H := (an606 : e2_Q8)
noncomputable def q_a154_0 : ev_H := (an606 : e2_Q8)
noncomputable def rs_a154 : e2_Rs := [((11, 2147483648, 2147483649), q_a154_0)]
noncomputable def s_a154 : e2_Sm := (59, as_a154, E_a154, f_a154, rs_a154)
noncomputable def S_a154 : List e2_Sm := [s_a37, s_a152, s_a153]
noncomputable def I_a154 : List e2_In := [(19, 2, e2x_19), (20, 2, e2x_20), (60, 1, e2x_60)]
set_option maxRecDepth 1000000 in
theorem co_a154 : e2_okSB E_a154.length as_a154 f_a154 rs_a154 = true := by decide +kernel
def al_a154_0 : List ev_V := [(2, 33, 0), (2, 27, 0), (0, 2, 0), (0, 2, 0), (0, 1, 0), (1, 3, 4294967296), (9, 0, 0)]
def E_a154_0 : e2_E := [(2147483648, 2147583648, 0, 0), (2147483652, 2147483668, 1, 0), (2147483648, 2147485248, 2, 0), (2147483648, 2147483649, 3, 0)]
noncomputable def h_a154_0 : ev_H := (an606 : e2_Q8)
noncomputable def cl_a154_e : List (Nat × e2_S) := [(66, e2_cutL (al_a154_0.set 5 (11, 2147483648, 2147483649)) 3 (E_a154_0.take 3) h_a154_0)]
set_option maxRecDepth 1000000 in
theorem ck_a154_e : e2_run (e2_cal S_a154 I_a154 4000 2) (e2_fin rs_a154) e2x_59 (e2_bpL cl_a154_e) (e2_cutA cl_a154_e) 4000 (e2_seek e2x_59 0) (e2_al 7 as_a154) [] E_a154 f_a154 = true := by decide +kernel
noncomputable def cl_a154_0 : List (Nat × e2_S) := [(66, e2_cutL (al_a154_0.set 5 (13, 11, 2147483649)) 3 (E_a154_0.take 3) h_a154_0)]
set_option maxRecDepth 1000000 in
theorem ck_a154_0 : e2_runM (e2_cal S_a154 I_a154 4000 2) (e2_fin rs_a154) e2x_59 (e2_bpL cl_a154_0) (e2_cutA cl_a154_0) 4000 (e2_seek e2x_59 66) al_a154_0 [] E_a154_0 h_a154_0 = true := by decide +kernel
set_option maxRecDepth 1000000 in
theorem ci_a154_0 : e2_idl 3 (al_a154_0.set 5 (9, 0, 0)) = true := by decide +kernel
set_option maxRecDepth 1000000 in
theorem cj_a154_0 : e2_idh 3 8 h_a154_0 = true := by decide +kernel
theorem cs_a154 (hen : en_ok) (l : Launch) (hh : e2_hand_a l) : e2_smOk l 170 s_a154 := by
  refine e2_conG (H := 167) (n := 2) (C := evd_59) (S := S_a154) (I := I_a154) (fuel := 4000) hen ei_59 (e2_fa ((cs_a37 hen l hh).mono (by decide)) (e2_fa (cs_a152 hen l hh) (e2_fa ((cs_a153 hen l hh).mono (by decide)) e2_fz))) (e2_fa ein_19 (e2_fa ein_20 (e2_fa ein_60 e2_fz))) (by decide) co_a154 fun M d _ hC hcall p e R s m args below meth c Q D cA A ads r0 ha hl0 => ?_
  have L_0 : e2_gdM M p l e R s m args below meth c Q D cA A ads r0 66 al_a154_0 [] E_a154_0 h_a154_0 := by
    refine e2_indL (u := 3) (j := 5) (lo := 2147483648) (hi := 2147483649) (b := 3) (dd := 0) hl0 (by decide) rfl rfl (Or.inr ⟨rfl, rfl⟩) rfl ci_a154_0 cj_a154_0 ?_
    intro r_0 k_0 hk_0 hp_0 hs_0 hn_0
    have hl_0 : r_0.length ≤ 4 := hs_0.len rfl
    have ha_0 := ha.ext hp_0
    exact e2_fromM hen ha_0 hcall (e2_cutA_ok (e2_fa (fun al st E h hc => hn_0 al st E h hc) e2_fz)) (hC []) (X := e2x_59) ex2_59 66 ck_a154_0
  have EN_0 := e2_entL (u := 3) (j := 5) (lo := 2147483648) (hi := 2147483649) hl0 rfl rfl rfl ci_a154_0 cj_a154_0 L_0
  exact e2_from hen ha hcall (e2_cutA_ok (e2_fa (fun al st E h hc => EN_0 al st E h hc) e2_fz)) (hC []) (X := e2x_59) ex2_59 0 ck_a154_e
/-! a155 X3_parseLevel -/
def as_a155 : List ev_V := [(2, 33, 0), (2, 27, 0), (0, 1, 0), (0, 2, 0)]
def E_a155 : e2_E := [(2147483648, 2147583648, 0, 0), (2147483652, 2147483668, 1, 0), (2147483648, 2147485248, 2, 0)]
noncomputable def f_a155 : ev_H := (an606 : e2_Q8)
noncomputable def q_a155_0 : ev_H := (an606 : e2_Q8)
noncomputable def rs_a155 : e2_Rs := [((11, 2147483648, 2147483649), q_a155_0)]
noncomputable def s_a155 : e2_Sm := (59, as_a155, E_a155, f_a155, rs_a155)
noncomputable def S_a155 : List e2_Sm := [s_a37, s_a154]
noncomputable def I_a155 : List e2_In := [(19, 2, e2x_19), (20, 2, e2x_20), (60, 1, e2x_60)]
set_option maxRecDepth 1000000 in
theorem co_a155 : e2_okSB E_a155.length as_a155 f_a155 rs_a155 = true := by decide +kernel
def al_a155_0 : List ev_V := [(2, 33, 0), (2, 27, 0), (0, 1, 0), (0, 2, 0), (0, 30, 0), (1, 3, 4294967296), (9, 0, 0)]
def E_a155_0 : e2_E := [(2147483648, 2147583648, 0, 0), (2147483652, 2147483668, 1, 0), (2147483648, 2147485248, 2, 0), (2147483648, 2147483678, 3, 0)]
noncomputable def h_a155_0 : ev_H := (an606 : e2_Q8)
noncomputable def cl_a155_e : List (Nat × e2_S) := [(66, e2_cutL (al_a155_0.set 5 (11, 2147483648, 2147483678)) 3 (E_a155_0.take 3) h_a155_0)]
set_option maxRecDepth 1000000 in
theorem ck_a155_e : e2_run (e2_cal S_a155 I_a155 4000 2) (e2_fin rs_a155) e2x_59 (e2_bpL cl_a155_e) (e2_cutA cl_a155_e) 4000 (e2_seek e2x_59 0) (e2_al 7 as_a155) [] E_a155 f_a155 = true := by decide +kernel
noncomputable def cl_a155_0 : List (Nat × e2_S) := [(66, e2_cutL (al_a155_0.set 5 (13, 11, 2147483678)) 3 (E_a155_0.take 3) h_a155_0)]
set_option maxRecDepth 1000000 in
theorem ck_a155_0 : e2_runM (e2_cal S_a155 I_a155 4000 2) (e2_fin rs_a155) e2x_59 (e2_bpL cl_a155_0) (e2_cutA cl_a155_0) 4000 (e2_seek e2x_59 66) al_a155_0 [] E_a155_0 h_a155_0 = true := by decide +kernel
set_option maxRecDepth 1000000 in
theorem ci_a155_0 : e2_idl 3 (al_a155_0.set 5 (9, 0, 0)) = true := by decide +kernel
set_option maxRecDepth 1000000 in
theorem cj_a155_0 : e2_idh 3 8 h_a155_0 = true := by decide +kernel
theorem cs_a155 (hen : en_ok) (l : Launch) (hh : e2_hand_a l) : e2_smOk l 173 s_a155 := by
  refine e2_conG (H := 170) (n := 2) (C := evd_59) (S := S_a155) (I := I_a155) (fuel := 4000) hen ei_59 (e2_fa ((cs_a37 hen l hh).mono (by decide)) (e2_fa (cs_a154 hen l hh) e2_fz)) (e2_fa ein_19 (e2_fa ein_20 (e2_fa ein_60 e2_fz))) (by decide) co_a155 fun M d _ hC hcall p e R s m args below meth c Q D cA A ads r0 ha hl0 => ?_
  have L_0 : e2_gdM M p l e R s m args below meth c Q D cA A ads r0 66 al_a155_0 [] E_a155_0 h_a155_0 := by
    refine e2_indL (u := 3) (j := 5) (lo := 2147483648) (hi := 2147483678) (b := 3) (dd := 0) hl0 (by decide) rfl rfl (Or.inr ⟨rfl, rfl⟩) rfl ci_a155_0 cj_a155_0 ?_
    intro r_0 k_0 hk_0 hp_0 hs_0 hn_0
    have hl_0 : r_0.length ≤ 4 := hs_0.len rfl
    have ha_0 := ha.ext hp_0
    exact e2_fromM hen ha_0 hcall (e2_cutA_ok (e2_fa (fun al st E h hc => hn_0 al st E h hc) e2_fz)) (hC []) (X := e2x_59) ex2_59 66 ck_a155_0
  have EN_0 := e2_entL (u := 3) (j := 5) (lo := 2147483648) (hi := 2147483678) hl0 rfl rfl rfl ci_a155_0 cj_a155_0 L_0
  exact e2_from hen ha hcall (e2_cutA_ok (e2_fa (fun al st E h hc => EN_0 al st E h hc) e2_fz)) (hC []) (X := e2x_59) ex2_59 0 ck_a155_e
/-! a156 X3_parseLevel -/
def as_a156 : List ev_V := [(2, 33, 0), (2, 27, 0), (0, 0, 0), (0, 2, 0)]
def E_a156 : e2_E := [(2147483648, 2147583648, 0, 0), (2147483652, 2147483668, 1, 0), (2147483648, 2147485248, 2, 0)]
noncomputable def f_a156 : ev_H := (an606 : e2_Q8)
noncomputable def q_a156_0 : ev_H := (an606 : e2_Q8)
noncomputable def rs_a156 : e2_Rs := [((11, 2147483648, 2147483649), q_a156_0)]
noncomputable def s_a156 : e2_Sm := (59, as_a156, E_a156, f_a156, rs_a156)
noncomputable def S_a156 : List e2_Sm := [s_a37, s_a155]
noncomputable def I_a156 : List e2_In := [(19, 2, e2x_19), (20, 2, e2x_20), (60, 1, e2x_60)]
set_option maxRecDepth 1000000 in
theorem co_a156 : e2_okSB E_a156.length as_a156 f_a156 rs_a156 = true := by decide +kernel
def al_a156_0 : List ev_V := [(2, 33, 0), (2, 27, 0), (0, 0, 0), (0, 2, 0), (0, 30, 0), (1, 3, 4294967296), (9, 0, 0)]
def E_a156_0 : e2_E := [(2147483648, 2147583648, 0, 0), (2147483652, 2147483668, 1, 0), (2147483648, 2147485248, 2, 0), (2147483648, 2147483678, 3, 0)]
noncomputable def h_a156_0 : ev_H := (an606 : e2_Q8)
noncomputable def cl_a156_e : List (Nat × e2_S) := [(66, e2_cutL (al_a156_0.set 5 (11, 2147483648, 2147483678)) 3 (E_a156_0.take 3) h_a156_0)]
set_option maxRecDepth 1000000 in
theorem ck_a156_e : e2_run (e2_cal S_a156 I_a156 4000 2) (e2_fin rs_a156) e2x_59 (e2_bpL cl_a156_e) (e2_cutA cl_a156_e) 4000 (e2_seek e2x_59 0) (e2_al 7 as_a156) [] E_a156 f_a156 = true := by decide +kernel
noncomputable def cl_a156_0 : List (Nat × e2_S) := [(66, e2_cutL (al_a156_0.set 5 (13, 11, 2147483678)) 3 (E_a156_0.take 3) h_a156_0)]
set_option maxRecDepth 1000000 in
theorem ck_a156_0 : e2_runM (e2_cal S_a156 I_a156 4000 2) (e2_fin rs_a156) e2x_59 (e2_bpL cl_a156_0) (e2_cutA cl_a156_0) 4000 (e2_seek e2x_59 66) al_a156_0 [] E_a156_0 h_a156_0 = true := by decide +kernel
set_option maxRecDepth 1000000 in
theorem ci_a156_0 : e2_idl 3 (al_a156_0.set 5 (9, 0, 0)) = true := by decide +kernel
set_option maxRecDepth 1000000 in
theorem cj_a156_0 : e2_idh 3 8 h_a156_0 = true := by decide +kernel
theorem cs_a156 (hen : en_ok) (l : Launch) (hh : e2_hand_a l) : e2_smOk l 176 s_a156 := by
  refine e2_conG (H := 173) (n := 2) (C := evd_59) (S := S_a156) (I := I_a156) (fuel := 4000) hen ei_59 (e2_fa ((cs_a37 hen l hh).mono (by decide)) (e2_fa (cs_a155 hen l hh) e2_fz)) (e2_fa ein_19 (e2_fa ein_20 (e2_fa ein_60 e2_fz))) (by decide) co_a156 fun M d _ hC hcall p e R s m args below meth c Q D cA A ads r0 ha hl0 => ?_
  have L_0 : e2_gdM M p l e R s m args below meth c Q D cA A ads r0 66 al_a156_0 [] E_a156_0 h_a156_0 := by
    refine e2_indL (u := 3) (j := 5) (lo := 2147483648) (hi := 2147483678) (b := 3) (dd := 0) hl0 (by decide) rfl rfl (Or.inr ⟨rfl, rfl⟩) rfl ci_a156_0 cj_a156_0 ?_
    intro r_0 k_0 hk_0 hp_0 hs_0 hn_0
    have hl_0 : r_0.length ≤ 4 := hs_0.len rfl
    have ha_0 := ha.ext hp_0
    exact e2_fromM hen ha_0 hcall (e2_cutA_ok (e2_fa (fun al st E h hc => hn_0 al st E h hc) e2_fz)) (hC []) (X := e2x_59) ex2_59 66 ck_a156_0
  have EN_0 := e2_entL (u := 3) (j := 5) (lo := 2147483648) (hi := 2147483678) hl0 rfl rfl rfl ci_a156_0 cj_a156_0 L_0
  exact e2_from hen ha hcall (e2_cutA_ok (e2_fa (fun al st E h hc => EN_0 al st E h hc) e2_fz)) (hC []) (X := e2x_59) ex2_59 0 ck_a156_e
/-! a157 X3_parseUnit -/
def as_a157 : List ev_V := [(2, 33, 0), (2, 27, 0), (0, 1, 0)]
def E_a157 : e2_E := [(2147483648, 2147583648, 0, 0), (2147483652, 2147483668, 1, 0), (2147483648, 2147485248, 2, 0)]
noncomputable def f_a157 : ev_H := (an606 : e2_Q8)
noncomputable def q_a157_0 : ev_H := (an606 : e2_Q8)
noncomputable def rs_a157 : e2_Rs := [((11, 2147483648, 2147483649), q_a157_0)]
noncomputable def s_a157 : e2_Sm := (62, as_a157, E_a157, f_a157, rs_a157)
noncomputable def S_a157 : List e2_Sm := [s_a37, s_a38, s_a156]
noncomputable def I_a157 : List e2_In := [(18, 2, e2x_18), (19, 2, e2x_19), (20, 2, e2x_20), (43, 2, e2x_43), (44, 3, e2x_44)]
set_option maxRecDepth 1000000 in
theorem ck_a157 : e2_run (e2_cal S_a157 I_a157 4000 2) (e2_fin rs_a157) e2x_62 (fun _ => false) (fun _ _ _ _ _ => false) 4000 (e2_seek e2x_62 0) (e2_al 7 as_a157) [] E_a157 f_a157 = true := by decide +kernel
set_option maxRecDepth 1000000 in
theorem co_a157 : e2_okSB E_a157.length as_a157 f_a157 rs_a157 = true := by decide +kernel
theorem cs_a157 (hen : en_ok) (l : Launch) (hh : e2_hand_a l) : e2_smOk l 179 s_a157 := e2_con0 (H := 176) (n := 2) (C := evd_62) (S := S_a157) (I := I_a157) (fuel := 4000) [] hen ei_62 (e2_fa ((cs_a37 hen l hh).mono (by decide)) (e2_fa ((cs_a38 hen l hh).mono (by decide)) (e2_fa (cs_a156 hen l hh) e2_fz))) (e2_fa ein_18 (e2_fa ein_19 (e2_fa ein_20 (e2_fa ein_43 (e2_fa ein_44 e2_fz))))) (by decide) co_a157 ex2_62 ck_a157
/-! a158 X3_parseLevel -/
def as_a158 : List ev_V := [(2, 33, 0), (2, 27, 0), (0, 5, 0), (0, 1, 0)]
def E_a158 : e2_E := [(2147483648, 2147583648, 0, 0), (2147483652, 2147483668, 1, 0), (2147483648, 2147485248, 2, 0)]
noncomputable def f_a158 : ev_H := (an606 : e2_Q8)
noncomputable def q_a158_0 : ev_H := (an606 : e2_Q8)
noncomputable def rs_a158 : e2_Rs := [((11, 2147483648, 2147483649), q_a158_0)]
noncomputable def s_a158 : e2_Sm := (59, as_a158, E_a158, f_a158, rs_a158)
noncomputable def S_a158 : List e2_Sm := [s_a157]
noncomputable def I_a158 : List e2_In := []
set_option maxRecDepth 1000000 in
theorem ck_a158 : e2_run (e2_cal S_a158 I_a158 4000 0) (e2_fin rs_a158) e2x_59 (fun _ => false) (fun _ _ _ _ _ => false) 4000 (e2_seek e2x_59 0) (e2_al 7 as_a158) [] E_a158 f_a158 = true := by decide +kernel
set_option maxRecDepth 1000000 in
theorem co_a158 : e2_okSB E_a158.length as_a158 f_a158 rs_a158 = true := by decide +kernel
theorem cs_a158 (hen : en_ok) (l : Launch) (hh : e2_hand_a l) : e2_smOk l 180 s_a158 := e2_con0 (H := 179) (n := 0) (C := evd_59) (S := S_a158) (I := I_a158) (fuel := 4000) [] hen ei_59 (e2_fa (cs_a157 hen l hh) e2_fz) e2_fz (by decide) co_a158 ex2_59 ck_a158
/-! a159 X3_parseLevel -/
def as_a159 : List ev_V := [(2, 33, 0), (2, 27, 0), (0, 4, 0), (0, 1, 0)]
def E_a159 : e2_E := [(2147483648, 2147583648, 0, 0), (2147483652, 2147483668, 1, 0), (2147483648, 2147485248, 2, 0)]
noncomputable def f_a159 : ev_H := (an606 : e2_Q8)
noncomputable def q_a159_0 : ev_H := (an606 : e2_Q8)
noncomputable def rs_a159 : e2_Rs := [((11, 2147483648, 2147483649), q_a159_0)]
noncomputable def s_a159 : e2_Sm := (59, as_a159, E_a159, f_a159, rs_a159)
noncomputable def S_a159 : List e2_Sm := [s_a37, s_a158]
noncomputable def I_a159 : List e2_In := [(19, 2, e2x_19), (20, 2, e2x_20), (60, 1, e2x_60)]
set_option maxRecDepth 1000000 in
theorem co_a159 : e2_okSB E_a159.length as_a159 f_a159 rs_a159 = true := by decide +kernel
def al_a159_0 : List ev_V := [(2, 33, 0), (2, 27, 0), (0, 4, 0), (0, 1, 0), (0, 30, 0), (1, 3, 4294967296), (9, 0, 0)]
def E_a159_0 : e2_E := [(2147483648, 2147583648, 0, 0), (2147483652, 2147483668, 1, 0), (2147483648, 2147485248, 2, 0), (2147483648, 2147483678, 3, 0)]
noncomputable def h_a159_0 : ev_H := (an606 : e2_Q8)
noncomputable def cl_a159_e : List (Nat × e2_S) := [(66, e2_cutL (al_a159_0.set 5 (11, 2147483648, 2147483678)) 3 (E_a159_0.take 3) h_a159_0)]
set_option maxRecDepth 1000000 in
theorem ck_a159_e : e2_run (e2_cal S_a159 I_a159 4000 2) (e2_fin rs_a159) e2x_59 (e2_bpL cl_a159_e) (e2_cutA cl_a159_e) 4000 (e2_seek e2x_59 0) (e2_al 7 as_a159) [] E_a159 f_a159 = true := by decide +kernel
noncomputable def cl_a159_0 : List (Nat × e2_S) := [(66, e2_cutL (al_a159_0.set 5 (13, 11, 2147483678)) 3 (E_a159_0.take 3) h_a159_0)]
set_option maxRecDepth 1000000 in
theorem ck_a159_0 : e2_runM (e2_cal S_a159 I_a159 4000 2) (e2_fin rs_a159) e2x_59 (e2_bpL cl_a159_0) (e2_cutA cl_a159_0) 4000 (e2_seek e2x_59 66) al_a159_0 [] E_a159_0 h_a159_0 = true := by decide +kernel
set_option maxRecDepth 1000000 in
theorem ci_a159_0 : e2_idl 3 (al_a159_0.set 5 (9, 0, 0)) = true := by decide +kernel
set_option maxRecDepth 1000000 in
theorem cj_a159_0 : e2_idh 3 8 h_a159_0 = true := by decide +kernel
theorem cs_a159 (hen : en_ok) (l : Launch) (hh : e2_hand_a l) : e2_smOk l 183 s_a159 := by
  refine e2_conG (H := 180) (n := 2) (C := evd_59) (S := S_a159) (I := I_a159) (fuel := 4000) hen ei_59 (e2_fa ((cs_a37 hen l hh).mono (by decide)) (e2_fa (cs_a158 hen l hh) e2_fz)) (e2_fa ein_19 (e2_fa ein_20 (e2_fa ein_60 e2_fz))) (by decide) co_a159 fun M d _ hC hcall p e R s m args below meth c Q D cA A ads r0 ha hl0 => ?_
  have L_0 : e2_gdM M p l e R s m args below meth c Q D cA A ads r0 66 al_a159_0 [] E_a159_0 h_a159_0 := by
    refine e2_indL (u := 3) (j := 5) (lo := 2147483648) (hi := 2147483678) (b := 3) (dd := 0) hl0 (by decide) rfl rfl (Or.inr ⟨rfl, rfl⟩) rfl ci_a159_0 cj_a159_0 ?_
    intro r_0 k_0 hk_0 hp_0 hs_0 hn_0
    have hl_0 : r_0.length ≤ 4 := hs_0.len rfl
    have ha_0 := ha.ext hp_0
    exact e2_fromM hen ha_0 hcall (e2_cutA_ok (e2_fa (fun al st E h hc => hn_0 al st E h hc) e2_fz)) (hC []) (X := e2x_59) ex2_59 66 ck_a159_0
  have EN_0 := e2_entL (u := 3) (j := 5) (lo := 2147483648) (hi := 2147483678) hl0 rfl rfl rfl ci_a159_0 cj_a159_0 L_0
  exact e2_from hen ha hcall (e2_cutA_ok (e2_fa (fun al st E h hc => EN_0 al st E h hc) e2_fz)) (hC []) (X := e2x_59) ex2_59 0 ck_a159_e
/-! a160 X3_parseLevel -/
def as_a160 : List ev_V := [(2, 33, 0), (2, 27, 0), (0, 3, 0), (0, 1, 0)]
def E_a160 : e2_E := [(2147483648, 2147583648, 0, 0), (2147483652, 2147483668, 1, 0), (2147483648, 2147485248, 2, 0)]
noncomputable def f_a160 : ev_H := (an606 : e2_Q8)
noncomputable def q_a160_0 : ev_H := (an606 : e2_Q8)
noncomputable def rs_a160 : e2_Rs := [((11, 2147483648, 2147483649), q_a160_0)]
noncomputable def s_a160 : e2_Sm := (59, as_a160, E_a160, f_a160, rs_a160)
noncomputable def S_a160 : List e2_Sm := [s_a37, s_a159]
noncomputable def I_a160 : List e2_In := [(19, 2, e2x_19), (20, 2, e2x_20), (60, 1, e2x_60)]
set_option maxRecDepth 1000000 in
theorem co_a160 : e2_okSB E_a160.length as_a160 f_a160 rs_a160 = true := by decide +kernel
def al_a160_0 : List ev_V := [(2, 33, 0), (2, 27, 0), (0, 3, 0), (0, 1, 0), (0, 30, 0), (1, 3, 4294967296), (9, 0, 0)]
def E_a160_0 : e2_E := [(2147483648, 2147583648, 0, 0), (2147483652, 2147483668, 1, 0), (2147483648, 2147485248, 2, 0), (2147483648, 2147483678, 3, 0)]
noncomputable def h_a160_0 : ev_H := (an606 : e2_Q8)
noncomputable def cl_a160_e : List (Nat × e2_S) := [(66, e2_cutL (al_a160_0.set 5 (11, 2147483648, 2147483678)) 3 (E_a160_0.take 3) h_a160_0)]
set_option maxRecDepth 1000000 in
theorem ck_a160_e : e2_run (e2_cal S_a160 I_a160 4000 2) (e2_fin rs_a160) e2x_59 (e2_bpL cl_a160_e) (e2_cutA cl_a160_e) 4000 (e2_seek e2x_59 0) (e2_al 7 as_a160) [] E_a160 f_a160 = true := by decide +kernel
noncomputable def cl_a160_0 : List (Nat × e2_S) := [(66, e2_cutL (al_a160_0.set 5 (13, 11, 2147483678)) 3 (E_a160_0.take 3) h_a160_0)]
set_option maxRecDepth 1000000 in
theorem ck_a160_0 : e2_runM (e2_cal S_a160 I_a160 4000 2) (e2_fin rs_a160) e2x_59 (e2_bpL cl_a160_0) (e2_cutA cl_a160_0) 4000 (e2_seek e2x_59 66) al_a160_0 [] E_a160_0 h_a160_0 = true := by decide +kernel
set_option maxRecDepth 1000000 in
theorem ci_a160_0 : e2_idl 3 (al_a160_0.set 5 (9, 0, 0)) = true := by decide +kernel
set_option maxRecDepth 1000000 in
theorem cj_a160_0 : e2_idh 3 8 h_a160_0 = true := by decide +kernel
theorem cs_a160 (hen : en_ok) (l : Launch) (hh : e2_hand_a l) : e2_smOk l 186 s_a160 := by
  refine e2_conG (H := 183) (n := 2) (C := evd_59) (S := S_a160) (I := I_a160) (fuel := 4000) hen ei_59 (e2_fa ((cs_a37 hen l hh).mono (by decide)) (e2_fa (cs_a159 hen l hh) e2_fz)) (e2_fa ein_19 (e2_fa ein_20 (e2_fa ein_60 e2_fz))) (by decide) co_a160 fun M d _ hC hcall p e R s m args below meth c Q D cA A ads r0 ha hl0 => ?_
  have L_0 : e2_gdM M p l e R s m args below meth c Q D cA A ads r0 66 al_a160_0 [] E_a160_0 h_a160_0 := by
    refine e2_indL (u := 3) (j := 5) (lo := 2147483648) (hi := 2147483678) (b := 3) (dd := 0) hl0 (by decide) rfl rfl (Or.inr ⟨rfl, rfl⟩) rfl ci_a160_0 cj_a160_0 ?_
    intro r_0 k_0 hk_0 hp_0 hs_0 hn_0
    have hl_0 : r_0.length ≤ 4 := hs_0.len rfl
    have ha_0 := ha.ext hp_0
    exact e2_fromM hen ha_0 hcall (e2_cutA_ok (e2_fa (fun al st E h hc => hn_0 al st E h hc) e2_fz)) (hC []) (X := e2x_59) ex2_59 66 ck_a160_0
  have EN_0 := e2_entL (u := 3) (j := 5) (lo := 2147483648) (hi := 2147483678) hl0 rfl rfl rfl ci_a160_0 cj_a160_0 L_0
  exact e2_from hen ha hcall (e2_cutA_ok (e2_fa (fun al st E h hc => EN_0 al st E h hc) e2_fz)) (hC []) (X := e2x_59) ex2_59 0 ck_a160_e
/-! a161 X3_parseNot -/
def as_a161 : List ev_V := [(2, 33, 0), (2, 27, 0), (0, 1, 0)]
def E_a161 : e2_E := [(2147483648, 2147583648, 0, 0), (2147483652, 2147483668, 1, 0), (2147483648, 2147485248, 2, 0)]
noncomputable def f_a161 : ev_H := (an606 : e2_Q8)
noncomputable def q_a161_0 : ev_H := (an606 : e2_Q8)
noncomputable def rs_a161 : e2_Rs := [((11, 2147483648, 2147483649), q_a161_0)]
noncomputable def s_a161 : e2_Sm := (61, as_a161, E_a161, f_a161, rs_a161)
noncomputable def S_a161 : List e2_Sm := [s_a37, s_a154]
noncomputable def I_a161 : List e2_In := [(19, 2, e2x_19), (20, 2, e2x_20)]
set_option maxRecDepth 1000000 in
theorem ck_a161 : e2_run (e2_cal S_a161 I_a161 4000 2) (e2_fin rs_a161) e2x_61 (fun _ => false) (fun _ _ _ _ _ => false) 4000 (e2_seek e2x_61 0) (e2_al 3 as_a161) [] E_a161 f_a161 = true := by decide +kernel
set_option maxRecDepth 1000000 in
theorem co_a161 : e2_okSB E_a161.length as_a161 f_a161 rs_a161 = true := by decide +kernel
theorem cs_a161 (hen : en_ok) (l : Launch) (hh : e2_hand_a l) : e2_smOk l 173 s_a161 := e2_con0 (H := 170) (n := 2) (C := evd_61) (S := S_a161) (I := I_a161) (fuel := 4000) [] hen ei_61 (e2_fa ((cs_a37 hen l hh).mono (by decide)) (e2_fa (cs_a154 hen l hh) e2_fz)) (e2_fa ein_19 (e2_fa ein_20 e2_fz)) (by decide) co_a161 ex2_61 ck_a161
/-! a162 X3_parseLevel -/
def as_a162 : List ev_V := [(2, 33, 0), (2, 27, 0), (0, 2, 0), (0, 1, 0)]
def E_a162 : e2_E := [(2147483648, 2147583648, 0, 0), (2147483652, 2147483668, 1, 0), (2147483648, 2147485248, 2, 0)]
noncomputable def f_a162 : ev_H := (an606 : e2_Q8)
noncomputable def q_a162_0 : ev_H := (an606 : e2_Q8)
noncomputable def rs_a162 : e2_Rs := [((11, 2147483648, 2147483649), q_a162_0)]
noncomputable def s_a162 : e2_Sm := (59, as_a162, E_a162, f_a162, rs_a162)
noncomputable def S_a162 : List e2_Sm := [s_a37, s_a160, s_a161]
noncomputable def I_a162 : List e2_In := [(19, 2, e2x_19), (20, 2, e2x_20), (60, 1, e2x_60)]
set_option maxRecDepth 1000000 in
theorem co_a162 : e2_okSB E_a162.length as_a162 f_a162 rs_a162 = true := by decide +kernel
def al_a162_0 : List ev_V := [(2, 33, 0), (2, 27, 0), (0, 2, 0), (0, 1, 0), (0, 1, 0), (1, 3, 4294967296), (9, 0, 0)]
def E_a162_0 : e2_E := [(2147483648, 2147583648, 0, 0), (2147483652, 2147483668, 1, 0), (2147483648, 2147485248, 2, 0), (2147483648, 2147483649, 3, 0)]
noncomputable def h_a162_0 : ev_H := (an606 : e2_Q8)
noncomputable def cl_a162_e : List (Nat × e2_S) := [(66, e2_cutL (al_a162_0.set 5 (11, 2147483648, 2147483649)) 3 (E_a162_0.take 3) h_a162_0)]
set_option maxRecDepth 1000000 in
theorem ck_a162_e : e2_run (e2_cal S_a162 I_a162 4000 2) (e2_fin rs_a162) e2x_59 (e2_bpL cl_a162_e) (e2_cutA cl_a162_e) 4000 (e2_seek e2x_59 0) (e2_al 7 as_a162) [] E_a162 f_a162 = true := by decide +kernel
noncomputable def cl_a162_0 : List (Nat × e2_S) := [(66, e2_cutL (al_a162_0.set 5 (13, 11, 2147483649)) 3 (E_a162_0.take 3) h_a162_0)]
set_option maxRecDepth 1000000 in
theorem ck_a162_0 : e2_runM (e2_cal S_a162 I_a162 4000 2) (e2_fin rs_a162) e2x_59 (e2_bpL cl_a162_0) (e2_cutA cl_a162_0) 4000 (e2_seek e2x_59 66) al_a162_0 [] E_a162_0 h_a162_0 = true := by decide +kernel
set_option maxRecDepth 1000000 in
theorem ci_a162_0 : e2_idl 3 (al_a162_0.set 5 (9, 0, 0)) = true := by decide +kernel
set_option maxRecDepth 1000000 in
theorem cj_a162_0 : e2_idh 3 8 h_a162_0 = true := by decide +kernel
theorem cs_a162 (hen : en_ok) (l : Launch) (hh : e2_hand_a l) : e2_smOk l 189 s_a162 := by
  refine e2_conG (H := 186) (n := 2) (C := evd_59) (S := S_a162) (I := I_a162) (fuel := 4000) hen ei_59 (e2_fa ((cs_a37 hen l hh).mono (by decide)) (e2_fa (cs_a160 hen l hh) (e2_fa ((cs_a161 hen l hh).mono (by decide)) e2_fz))) (e2_fa ein_19 (e2_fa ein_20 (e2_fa ein_60 e2_fz))) (by decide) co_a162 fun M d _ hC hcall p e R s m args below meth c Q D cA A ads r0 ha hl0 => ?_
  have L_0 : e2_gdM M p l e R s m args below meth c Q D cA A ads r0 66 al_a162_0 [] E_a162_0 h_a162_0 := by
    refine e2_indL (u := 3) (j := 5) (lo := 2147483648) (hi := 2147483649) (b := 3) (dd := 0) hl0 (by decide) rfl rfl (Or.inr ⟨rfl, rfl⟩) rfl ci_a162_0 cj_a162_0 ?_
    intro r_0 k_0 hk_0 hp_0 hs_0 hn_0
    have hl_0 : r_0.length ≤ 4 := hs_0.len rfl
    have ha_0 := ha.ext hp_0
    exact e2_fromM hen ha_0 hcall (e2_cutA_ok (e2_fa (fun al st E h hc => hn_0 al st E h hc) e2_fz)) (hC []) (X := e2x_59) ex2_59 66 ck_a162_0
  have EN_0 := e2_entL (u := 3) (j := 5) (lo := 2147483648) (hi := 2147483649) hl0 rfl rfl rfl ci_a162_0 cj_a162_0 L_0
  exact e2_from hen ha hcall (e2_cutA_ok (e2_fa (fun al st E h hc => EN_0 al st E h hc) e2_fz)) (hC []) (X := e2x_59) ex2_59 0 ck_a162_e
/-! a163 X3_parseLevel -/
def as_a163 : List ev_V := [(2, 33, 0), (2, 27, 0), (0, 1, 0), (0, 1, 0)]
def E_a163 : e2_E := [(2147483648, 2147583648, 0, 0), (2147483652, 2147483668, 1, 0), (2147483648, 2147485248, 2, 0)]
noncomputable def f_a163 : ev_H := (an606 : e2_Q8)
noncomputable def q_a163_0 : ev_H := (an606 : e2_Q8)
noncomputable def rs_a163 : e2_Rs := [((11, 2147483648, 2147483649), q_a163_0)]
noncomputable def s_a163 : e2_Sm := (59, as_a163, E_a163, f_a163, rs_a163)
noncomputable def S_a163 : List e2_Sm := [s_a37, s_a162]
noncomputable def I_a163 : List e2_In := [(19, 2, e2x_19), (20, 2, e2x_20), (60, 1, e2x_60)]
set_option maxRecDepth 1000000 in
theorem co_a163 : e2_okSB E_a163.length as_a163 f_a163 rs_a163 = true := by decide +kernel
def al_a163_0 : List ev_V := [(2, 33, 0), (2, 27, 0), (0, 1, 0), (0, 1, 0), (0, 30, 0), (1, 3, 4294967296), (9, 0, 0)]
def E_a163_0 : e2_E := [(2147483648, 2147583648, 0, 0), (2147483652, 2147483668, 1, 0), (2147483648, 2147485248, 2, 0), (2147483648, 2147483678, 3, 0)]
noncomputable def h_a163_0 : ev_H := (an606 : e2_Q8)
noncomputable def cl_a163_e : List (Nat × e2_S) := [(66, e2_cutL (al_a163_0.set 5 (11, 2147483648, 2147483678)) 3 (E_a163_0.take 3) h_a163_0)]
set_option maxRecDepth 1000000 in
theorem ck_a163_e : e2_run (e2_cal S_a163 I_a163 4000 2) (e2_fin rs_a163) e2x_59 (e2_bpL cl_a163_e) (e2_cutA cl_a163_e) 4000 (e2_seek e2x_59 0) (e2_al 7 as_a163) [] E_a163 f_a163 = true := by decide +kernel
noncomputable def cl_a163_0 : List (Nat × e2_S) := [(66, e2_cutL (al_a163_0.set 5 (13, 11, 2147483678)) 3 (E_a163_0.take 3) h_a163_0)]
set_option maxRecDepth 1000000 in
theorem ck_a163_0 : e2_runM (e2_cal S_a163 I_a163 4000 2) (e2_fin rs_a163) e2x_59 (e2_bpL cl_a163_0) (e2_cutA cl_a163_0) 4000 (e2_seek e2x_59 66) al_a163_0 [] E_a163_0 h_a163_0 = true := by decide +kernel
set_option maxRecDepth 1000000 in
theorem ci_a163_0 : e2_idl 3 (al_a163_0.set 5 (9, 0, 0)) = true := by decide +kernel
set_option maxRecDepth 1000000 in
theorem cj_a163_0 : e2_idh 3 8 h_a163_0 = true := by decide +kernel
theorem cs_a163 (hen : en_ok) (l : Launch) (hh : e2_hand_a l) : e2_smOk l 192 s_a163 := by
  refine e2_conG (H := 189) (n := 2) (C := evd_59) (S := S_a163) (I := I_a163) (fuel := 4000) hen ei_59 (e2_fa ((cs_a37 hen l hh).mono (by decide)) (e2_fa (cs_a162 hen l hh) e2_fz)) (e2_fa ein_19 (e2_fa ein_20 (e2_fa ein_60 e2_fz))) (by decide) co_a163 fun M d _ hC hcall p e R s m args below meth c Q D cA A ads r0 ha hl0 => ?_
  have L_0 : e2_gdM M p l e R s m args below meth c Q D cA A ads r0 66 al_a163_0 [] E_a163_0 h_a163_0 := by
    refine e2_indL (u := 3) (j := 5) (lo := 2147483648) (hi := 2147483678) (b := 3) (dd := 0) hl0 (by decide) rfl rfl (Or.inr ⟨rfl, rfl⟩) rfl ci_a163_0 cj_a163_0 ?_
    intro r_0 k_0 hk_0 hp_0 hs_0 hn_0
    have hl_0 : r_0.length ≤ 4 := hs_0.len rfl
    have ha_0 := ha.ext hp_0
    exact e2_fromM hen ha_0 hcall (e2_cutA_ok (e2_fa (fun al st E h hc => hn_0 al st E h hc) e2_fz)) (hC []) (X := e2x_59) ex2_59 66 ck_a163_0
  have EN_0 := e2_entL (u := 3) (j := 5) (lo := 2147483648) (hi := 2147483678) hl0 rfl rfl rfl ci_a163_0 cj_a163_0 L_0
  exact e2_from hen ha hcall (e2_cutA_ok (e2_fa (fun al st E h hc => EN_0 al st E h hc) e2_fz)) (hC []) (X := e2x_59) ex2_59 0 ck_a163_e
/-! a164 X3_parseLevel -/
def as_a164 : List ev_V := [(2, 33, 0), (2, 27, 0), (0, 0, 0), (0, 1, 0)]
def E_a164 : e2_E := [(2147483648, 2147583648, 0, 0), (2147483652, 2147483668, 1, 0), (2147483648, 2147485248, 2, 0)]
noncomputable def f_a164 : ev_H := (an606 : e2_Q8)
noncomputable def q_a164_0 : ev_H := (an606 : e2_Q8)
noncomputable def rs_a164 : e2_Rs := [((11, 2147483648, 2147483649), q_a164_0)]
noncomputable def s_a164 : e2_Sm := (59, as_a164, E_a164, f_a164, rs_a164)
noncomputable def S_a164 : List e2_Sm := [s_a37, s_a163]
noncomputable def I_a164 : List e2_In := [(19, 2, e2x_19), (20, 2, e2x_20), (60, 1, e2x_60)]
set_option maxRecDepth 1000000 in
theorem co_a164 : e2_okSB E_a164.length as_a164 f_a164 rs_a164 = true := by decide +kernel
def al_a164_0 : List ev_V := [(2, 33, 0), (2, 27, 0), (0, 0, 0), (0, 1, 0), (0, 30, 0), (1, 3, 4294967296), (9, 0, 0)]
def E_a164_0 : e2_E := [(2147483648, 2147583648, 0, 0), (2147483652, 2147483668, 1, 0), (2147483648, 2147485248, 2, 0), (2147483648, 2147483678, 3, 0)]
noncomputable def h_a164_0 : ev_H := (an606 : e2_Q8)
noncomputable def cl_a164_e : List (Nat × e2_S) := [(66, e2_cutL (al_a164_0.set 5 (11, 2147483648, 2147483678)) 3 (E_a164_0.take 3) h_a164_0)]
set_option maxRecDepth 1000000 in
theorem ck_a164_e : e2_run (e2_cal S_a164 I_a164 4000 2) (e2_fin rs_a164) e2x_59 (e2_bpL cl_a164_e) (e2_cutA cl_a164_e) 4000 (e2_seek e2x_59 0) (e2_al 7 as_a164) [] E_a164 f_a164 = true := by decide +kernel
noncomputable def cl_a164_0 : List (Nat × e2_S) := [(66, e2_cutL (al_a164_0.set 5 (13, 11, 2147483678)) 3 (E_a164_0.take 3) h_a164_0)]
set_option maxRecDepth 1000000 in
theorem ck_a164_0 : e2_runM (e2_cal S_a164 I_a164 4000 2) (e2_fin rs_a164) e2x_59 (e2_bpL cl_a164_0) (e2_cutA cl_a164_0) 4000 (e2_seek e2x_59 66) al_a164_0 [] E_a164_0 h_a164_0 = true := by decide +kernel
set_option maxRecDepth 1000000 in
theorem ci_a164_0 : e2_idl 3 (al_a164_0.set 5 (9, 0, 0)) = true := by decide +kernel
set_option maxRecDepth 1000000 in
theorem cj_a164_0 : e2_idh 3 8 h_a164_0 = true := by decide +kernel
theorem cs_a164 (hen : en_ok) (l : Launch) (hh : e2_hand_a l) : e2_smOk l 195 s_a164 := by
  refine e2_conG (H := 192) (n := 2) (C := evd_59) (S := S_a164) (I := I_a164) (fuel := 4000) hen ei_59 (e2_fa ((cs_a37 hen l hh).mono (by decide)) (e2_fa (cs_a163 hen l hh) e2_fz)) (e2_fa ein_19 (e2_fa ein_20 (e2_fa ein_60 e2_fz))) (by decide) co_a164 fun M d _ hC hcall p e R s m args below meth c Q D cA A ads r0 ha hl0 => ?_
  have L_0 : e2_gdM M p l e R s m args below meth c Q D cA A ads r0 66 al_a164_0 [] E_a164_0 h_a164_0 := by
    refine e2_indL (u := 3) (j := 5) (lo := 2147483648) (hi := 2147483678) (b := 3) (dd := 0) hl0 (by decide) rfl rfl (Or.inr ⟨rfl, rfl⟩) rfl ci_a164_0 cj_a164_0 ?_
    intro r_0 k_0 hk_0 hp_0 hs_0 hn_0
    have hl_0 : r_0.length ≤ 4 := hs_0.len rfl
    have ha_0 := ha.ext hp_0
    exact e2_fromM hen ha_0 hcall (e2_cutA_ok (e2_fa (fun al st E h hc => hn_0 al st E h hc) e2_fz)) (hC []) (X := e2x_59) ex2_59 66 ck_a164_0
  have EN_0 := e2_entL (u := 3) (j := 5) (lo := 2147483648) (hi := 2147483678) hl0 rfl rfl rfl ci_a164_0 cj_a164_0 L_0
  exact e2_from hen ha hcall (e2_cutA_ok (e2_fa (fun al st E h hc => EN_0 al st E h hc) e2_fz)) (hC []) (X := e2x_59) ex2_59 0 ck_a164_e
/-! a165 X3_parseUnit -/
def as_a165 : List ev_V := [(2, 33, 0), (2, 27, 0), (0, 0, 0)]
def E_a165 : e2_E := [(2147483648, 2147583648, 0, 0), (2147483652, 2147483668, 1, 0), (2147483648, 2147485248, 2, 0)]
noncomputable def f_a165 : ev_H := (an606 : e2_Q8)
noncomputable def q_a165_0 : ev_H := (an606 : e2_Q8)
noncomputable def rs_a165 : e2_Rs := [((11, 2147483648, 2147483649), q_a165_0)]
noncomputable def s_a165 : e2_Sm := (62, as_a165, E_a165, f_a165, rs_a165)
noncomputable def S_a165 : List e2_Sm := [s_a37, s_a38, s_a164]
noncomputable def I_a165 : List e2_In := [(18, 2, e2x_18), (19, 2, e2x_19), (20, 2, e2x_20), (43, 2, e2x_43), (44, 3, e2x_44)]
set_option maxRecDepth 1000000 in
theorem ck_a165 : e2_run (e2_cal S_a165 I_a165 4000 2) (e2_fin rs_a165) e2x_62 (fun _ => false) (fun _ _ _ _ _ => false) 4000 (e2_seek e2x_62 0) (e2_al 7 as_a165) [] E_a165 f_a165 = true := by decide +kernel
set_option maxRecDepth 1000000 in
theorem co_a165 : e2_okSB E_a165.length as_a165 f_a165 rs_a165 = true := by decide +kernel
theorem cs_a165 (hen : en_ok) (l : Launch) (hh : e2_hand_a l) : e2_smOk l 198 s_a165 := e2_con0 (H := 195) (n := 2) (C := evd_62) (S := S_a165) (I := I_a165) (fuel := 4000) [] hen ei_62 (e2_fa ((cs_a37 hen l hh).mono (by decide)) (e2_fa ((cs_a38 hen l hh).mono (by decide)) (e2_fa (cs_a164 hen l hh) e2_fz))) (e2_fa ein_18 (e2_fa ein_19 (e2_fa ein_20 (e2_fa ein_43 (e2_fa ein_44 e2_fz))))) (by decide) co_a165 ex2_62 ck_a165
/-! a166 X3_parseLevel -/
def as_a166 : List ev_V := [(2, 33, 0), (2, 27, 0), (0, 5, 0), (0, 0, 0)]
def E_a166 : e2_E := [(2147483648, 2147583648, 0, 0), (2147483652, 2147483668, 1, 0), (2147483648, 2147485248, 2, 0)]
noncomputable def f_a166 : ev_H := (an606 : e2_Q8)
noncomputable def q_a166_0 : ev_H := (an606 : e2_Q8)
noncomputable def rs_a166 : e2_Rs := [((11, 2147483648, 2147483649), q_a166_0)]
noncomputable def s_a166 : e2_Sm := (59, as_a166, E_a166, f_a166, rs_a166)
noncomputable def S_a166 : List e2_Sm := [s_a165]
noncomputable def I_a166 : List e2_In := []
set_option maxRecDepth 1000000 in
theorem ck_a166 : e2_run (e2_cal S_a166 I_a166 4000 0) (e2_fin rs_a166) e2x_59 (fun _ => false) (fun _ _ _ _ _ => false) 4000 (e2_seek e2x_59 0) (e2_al 7 as_a166) [] E_a166 f_a166 = true := by decide +kernel
set_option maxRecDepth 1000000 in
theorem co_a166 : e2_okSB E_a166.length as_a166 f_a166 rs_a166 = true := by decide +kernel
theorem cs_a166 (hen : en_ok) (l : Launch) (hh : e2_hand_a l) : e2_smOk l 199 s_a166 := e2_con0 (H := 198) (n := 0) (C := evd_59) (S := S_a166) (I := I_a166) (fuel := 4000) [] hen ei_59 (e2_fa (cs_a165 hen l hh) e2_fz) e2_fz (by decide) co_a166 ex2_59 ck_a166
/-! a167 X3_parseLevel -/
def as_a167 : List ev_V := [(2, 33, 0), (2, 27, 0), (0, 4, 0), (0, 0, 0)]
def E_a167 : e2_E := [(2147483648, 2147583648, 0, 0), (2147483652, 2147483668, 1, 0), (2147483648, 2147485248, 2, 0)]
noncomputable def f_a167 : ev_H := (an606 : e2_Q8)
noncomputable def q_a167_0 : ev_H := (an606 : e2_Q8)
noncomputable def rs_a167 : e2_Rs := [((11, 2147483648, 2147483649), q_a167_0)]
noncomputable def s_a167 : e2_Sm := (59, as_a167, E_a167, f_a167, rs_a167)
noncomputable def S_a167 : List e2_Sm := [s_a37, s_a166]
noncomputable def I_a167 : List e2_In := [(19, 2, e2x_19), (20, 2, e2x_20), (60, 1, e2x_60)]
set_option maxRecDepth 1000000 in
theorem co_a167 : e2_okSB E_a167.length as_a167 f_a167 rs_a167 = true := by decide +kernel
def al_a167_0 : List ev_V := [(2, 33, 0), (2, 27, 0), (0, 4, 0), (0, 0, 0), (0, 30, 0), (1, 3, 4294967296), (9, 0, 0)]
def E_a167_0 : e2_E := [(2147483648, 2147583648, 0, 0), (2147483652, 2147483668, 1, 0), (2147483648, 2147485248, 2, 0), (2147483648, 2147483678, 3, 0)]
noncomputable def h_a167_0 : ev_H := (an606 : e2_Q8)
noncomputable def cl_a167_e : List (Nat × e2_S) := [(66, e2_cutL (al_a167_0.set 5 (11, 2147483648, 2147483678)) 3 (E_a167_0.take 3) h_a167_0)]
set_option maxRecDepth 1000000 in
theorem ck_a167_e : e2_run (e2_cal S_a167 I_a167 4000 2) (e2_fin rs_a167) e2x_59 (e2_bpL cl_a167_e) (e2_cutA cl_a167_e) 4000 (e2_seek e2x_59 0) (e2_al 7 as_a167) [] E_a167 f_a167 = true := by decide +kernel
noncomputable def cl_a167_0 : List (Nat × e2_S) := [(66, e2_cutL (al_a167_0.set 5 (13, 11, 2147483678)) 3 (E_a167_0.take 3) h_a167_0)]
set_option maxRecDepth 1000000 in
theorem ck_a167_0 : e2_runM (e2_cal S_a167 I_a167 4000 2) (e2_fin rs_a167) e2x_59 (e2_bpL cl_a167_0) (e2_cutA cl_a167_0) 4000 (e2_seek e2x_59 66) al_a167_0 [] E_a167_0 h_a167_0 = true := by decide +kernel
set_option maxRecDepth 1000000 in
theorem ci_a167_0 : e2_idl 3 (al_a167_0.set 5 (9, 0, 0)) = true := by decide +kernel
set_option maxRecDepth 1000000 in
theorem cj_a167_0 : e2_idh 3 8 h_a167_0 = true := by decide +kernel
theorem cs_a167 (hen : en_ok) (l : Launch) (hh : e2_hand_a l) : e2_smOk l 202 s_a167 := by
  refine e2_conG (H := 199) (n := 2) (C := evd_59) (S := S_a167) (I := I_a167) (fuel := 4000) hen ei_59 (e2_fa ((cs_a37 hen l hh).mono (by decide)) (e2_fa (cs_a166 hen l hh) e2_fz)) (e2_fa ein_19 (e2_fa ein_20 (e2_fa ein_60 e2_fz))) (by decide) co_a167 fun M d _ hC hcall p e R s m args below meth c Q D cA A ads r0 ha hl0 => ?_
  have L_0 : e2_gdM M p l e R s m args below meth c Q D cA A ads r0 66 al_a167_0 [] E_a167_0 h_a167_0 := by
    refine e2_indL (u := 3) (j := 5) (lo := 2147483648) (hi := 2147483678) (b := 3) (dd := 0) hl0 (by decide) rfl rfl (Or.inr ⟨rfl, rfl⟩) rfl ci_a167_0 cj_a167_0 ?_
    intro r_0 k_0 hk_0 hp_0 hs_0 hn_0
    have hl_0 : r_0.length ≤ 4 := hs_0.len rfl
    have ha_0 := ha.ext hp_0
    exact e2_fromM hen ha_0 hcall (e2_cutA_ok (e2_fa (fun al st E h hc => hn_0 al st E h hc) e2_fz)) (hC []) (X := e2x_59) ex2_59 66 ck_a167_0
  have EN_0 := e2_entL (u := 3) (j := 5) (lo := 2147483648) (hi := 2147483678) hl0 rfl rfl rfl ci_a167_0 cj_a167_0 L_0
  exact e2_from hen ha hcall (e2_cutA_ok (e2_fa (fun al st E h hc => EN_0 al st E h hc) e2_fz)) (hC []) (X := e2x_59) ex2_59 0 ck_a167_e
/-! a168 X3_parseLevel -/
def as_a168 : List ev_V := [(2, 33, 0), (2, 27, 0), (0, 3, 0), (0, 0, 0)]
def E_a168 : e2_E := [(2147483648, 2147583648, 0, 0), (2147483652, 2147483668, 1, 0), (2147483648, 2147485248, 2, 0)]
noncomputable def f_a168 : ev_H := (an606 : e2_Q8)
noncomputable def q_a168_0 : ev_H := (an606 : e2_Q8)
noncomputable def rs_a168 : e2_Rs := [((11, 2147483648, 2147483649), q_a168_0)]
noncomputable def s_a168 : e2_Sm := (59, as_a168, E_a168, f_a168, rs_a168)
noncomputable def S_a168 : List e2_Sm := [s_a37, s_a167]
noncomputable def I_a168 : List e2_In := [(19, 2, e2x_19), (20, 2, e2x_20), (60, 1, e2x_60)]
set_option maxRecDepth 1000000 in
theorem co_a168 : e2_okSB E_a168.length as_a168 f_a168 rs_a168 = true := by decide +kernel
def al_a168_0 : List ev_V := [(2, 33, 0), (2, 27, 0), (0, 3, 0), (0, 0, 0), (0, 30, 0), (1, 3, 4294967296), (9, 0, 0)]
def E_a168_0 : e2_E := [(2147483648, 2147583648, 0, 0), (2147483652, 2147483668, 1, 0), (2147483648, 2147485248, 2, 0), (2147483648, 2147483678, 3, 0)]
noncomputable def h_a168_0 : ev_H := (an606 : e2_Q8)
noncomputable def cl_a168_e : List (Nat × e2_S) := [(66, e2_cutL (al_a168_0.set 5 (11, 2147483648, 2147483678)) 3 (E_a168_0.take 3) h_a168_0)]
set_option maxRecDepth 1000000 in
theorem ck_a168_e : e2_run (e2_cal S_a168 I_a168 4000 2) (e2_fin rs_a168) e2x_59 (e2_bpL cl_a168_e) (e2_cutA cl_a168_e) 4000 (e2_seek e2x_59 0) (e2_al 7 as_a168) [] E_a168 f_a168 = true := by decide +kernel
noncomputable def cl_a168_0 : List (Nat × e2_S) := [(66, e2_cutL (al_a168_0.set 5 (13, 11, 2147483678)) 3 (E_a168_0.take 3) h_a168_0)]
set_option maxRecDepth 1000000 in
theorem ck_a168_0 : e2_runM (e2_cal S_a168 I_a168 4000 2) (e2_fin rs_a168) e2x_59 (e2_bpL cl_a168_0) (e2_cutA cl_a168_0) 4000 (e2_seek e2x_59 66) al_a168_0 [] E_a168_0 h_a168_0 = true := by decide +kernel
set_option maxRecDepth 1000000 in
theorem ci_a168_0 : e2_idl 3 (al_a168_0.set 5 (9, 0, 0)) = true := by decide +kernel
set_option maxRecDepth 1000000 in
theorem cj_a168_0 : e2_idh 3 8 h_a168_0 = true := by decide +kernel
theorem cs_a168 (hen : en_ok) (l : Launch) (hh : e2_hand_a l) : e2_smOk l 205 s_a168 := by
  refine e2_conG (H := 202) (n := 2) (C := evd_59) (S := S_a168) (I := I_a168) (fuel := 4000) hen ei_59 (e2_fa ((cs_a37 hen l hh).mono (by decide)) (e2_fa (cs_a167 hen l hh) e2_fz)) (e2_fa ein_19 (e2_fa ein_20 (e2_fa ein_60 e2_fz))) (by decide) co_a168 fun M d _ hC hcall p e R s m args below meth c Q D cA A ads r0 ha hl0 => ?_
  have L_0 : e2_gdM M p l e R s m args below meth c Q D cA A ads r0 66 al_a168_0 [] E_a168_0 h_a168_0 := by
    refine e2_indL (u := 3) (j := 5) (lo := 2147483648) (hi := 2147483678) (b := 3) (dd := 0) hl0 (by decide) rfl rfl (Or.inr ⟨rfl, rfl⟩) rfl ci_a168_0 cj_a168_0 ?_
    intro r_0 k_0 hk_0 hp_0 hs_0 hn_0
    have hl_0 : r_0.length ≤ 4 := hs_0.len rfl
    have ha_0 := ha.ext hp_0
    exact e2_fromM hen ha_0 hcall (e2_cutA_ok (e2_fa (fun al st E h hc => hn_0 al st E h hc) e2_fz)) (hC []) (X := e2x_59) ex2_59 66 ck_a168_0
  have EN_0 := e2_entL (u := 3) (j := 5) (lo := 2147483648) (hi := 2147483678) hl0 rfl rfl rfl ci_a168_0 cj_a168_0 L_0
  exact e2_from hen ha hcall (e2_cutA_ok (e2_fa (fun al st E h hc => EN_0 al st E h hc) e2_fz)) (hC []) (X := e2x_59) ex2_59 0 ck_a168_e
/-! a169 X3_parseNot -/
def as_a169 : List ev_V := [(2, 33, 0), (2, 27, 0), (0, 0, 0)]
def E_a169 : e2_E := [(2147483648, 2147583648, 0, 0), (2147483652, 2147483668, 1, 0), (2147483648, 2147485248, 2, 0)]
noncomputable def f_a169 : ev_H := (an606 : e2_Q8)
noncomputable def q_a169_0 : ev_H := (an606 : e2_Q8)
noncomputable def rs_a169 : e2_Rs := [((11, 2147483648, 2147483649), q_a169_0)]
noncomputable def s_a169 : e2_Sm := (61, as_a169, E_a169, f_a169, rs_a169)
noncomputable def S_a169 : List e2_Sm := [s_a37, s_a162]
noncomputable def I_a169 : List e2_In := [(19, 2, e2x_19), (20, 2, e2x_20)]
set_option maxRecDepth 1000000 in
theorem ck_a169 : e2_run (e2_cal S_a169 I_a169 4000 2) (e2_fin rs_a169) e2x_61 (fun _ => false) (fun _ _ _ _ _ => false) 4000 (e2_seek e2x_61 0) (e2_al 3 as_a169) [] E_a169 f_a169 = true := by decide +kernel
set_option maxRecDepth 1000000 in
theorem co_a169 : e2_okSB E_a169.length as_a169 f_a169 rs_a169 = true := by decide +kernel
theorem cs_a169 (hen : en_ok) (l : Launch) (hh : e2_hand_a l) : e2_smOk l 192 s_a169 := e2_con0 (H := 189) (n := 2) (C := evd_61) (S := S_a169) (I := I_a169) (fuel := 4000) [] hen ei_61 (e2_fa ((cs_a37 hen l hh).mono (by decide)) (e2_fa (cs_a162 hen l hh) e2_fz)) (e2_fa ein_19 (e2_fa ein_20 e2_fz)) (by decide) co_a169 ex2_61 ck_a169
/-! a170 X3_parseLevel -/
def as_a170 : List ev_V := [(2, 33, 0), (2, 27, 0), (0, 2, 0), (0, 0, 0)]
def E_a170 : e2_E := [(2147483648, 2147583648, 0, 0), (2147483652, 2147483668, 1, 0), (2147483648, 2147485248, 2, 0)]
noncomputable def f_a170 : ev_H := (an606 : e2_Q8)
noncomputable def q_a170_0 : ev_H := (an606 : e2_Q8)
noncomputable def rs_a170 : e2_Rs := [((11, 2147483648, 2147483649), q_a170_0)]
noncomputable def s_a170 : e2_Sm := (59, as_a170, E_a170, f_a170, rs_a170)
noncomputable def S_a170 : List e2_Sm := [s_a37, s_a168, s_a169]
noncomputable def I_a170 : List e2_In := [(19, 2, e2x_19), (20, 2, e2x_20), (60, 1, e2x_60)]
set_option maxRecDepth 1000000 in
theorem co_a170 : e2_okSB E_a170.length as_a170 f_a170 rs_a170 = true := by decide +kernel
def al_a170_0 : List ev_V := [(2, 33, 0), (2, 27, 0), (0, 2, 0), (0, 0, 0), (0, 1, 0), (1, 3, 4294967296), (9, 0, 0)]
def E_a170_0 : e2_E := [(2147483648, 2147583648, 0, 0), (2147483652, 2147483668, 1, 0), (2147483648, 2147485248, 2, 0), (2147483648, 2147483649, 3, 0)]
noncomputable def h_a170_0 : ev_H := (an606 : e2_Q8)
noncomputable def cl_a170_e : List (Nat × e2_S) := [(66, e2_cutL (al_a170_0.set 5 (11, 2147483648, 2147483649)) 3 (E_a170_0.take 3) h_a170_0)]
set_option maxRecDepth 1000000 in
theorem ck_a170_e : e2_run (e2_cal S_a170 I_a170 4000 2) (e2_fin rs_a170) e2x_59 (e2_bpL cl_a170_e) (e2_cutA cl_a170_e) 4000 (e2_seek e2x_59 0) (e2_al 7 as_a170) [] E_a170 f_a170 = true := by decide +kernel
noncomputable def cl_a170_0 : List (Nat × e2_S) := [(66, e2_cutL (al_a170_0.set 5 (13, 11, 2147483649)) 3 (E_a170_0.take 3) h_a170_0)]
set_option maxRecDepth 1000000 in
theorem ck_a170_0 : e2_runM (e2_cal S_a170 I_a170 4000 2) (e2_fin rs_a170) e2x_59 (e2_bpL cl_a170_0) (e2_cutA cl_a170_0) 4000 (e2_seek e2x_59 66) al_a170_0 [] E_a170_0 h_a170_0 = true := by decide +kernel
set_option maxRecDepth 1000000 in
theorem ci_a170_0 : e2_idl 3 (al_a170_0.set 5 (9, 0, 0)) = true := by decide +kernel
set_option maxRecDepth 1000000 in
theorem cj_a170_0 : e2_idh 3 8 h_a170_0 = true := by decide +kernel
theorem cs_a170 (hen : en_ok) (l : Launch) (hh : e2_hand_a l) : e2_smOk l 208 s_a170 := by
  refine e2_conG (H := 205) (n := 2) (C := evd_59) (S := S_a170) (I := I_a170) (fuel := 4000) hen ei_59 (e2_fa ((cs_a37 hen l hh).mono (by decide)) (e2_fa (cs_a168 hen l hh) (e2_fa ((cs_a169 hen l hh).mono (by decide)) e2_fz))) (e2_fa ein_19 (e2_fa ein_20 (e2_fa ein_60 e2_fz))) (by decide) co_a170 fun M d _ hC hcall p e R s m args below meth c Q D cA A ads r0 ha hl0 => ?_
  have L_0 : e2_gdM M p l e R s m args below meth c Q D cA A ads r0 66 al_a170_0 [] E_a170_0 h_a170_0 := by
    refine e2_indL (u := 3) (j := 5) (lo := 2147483648) (hi := 2147483649) (b := 3) (dd := 0) hl0 (by decide) rfl rfl (Or.inr ⟨rfl, rfl⟩) rfl ci_a170_0 cj_a170_0 ?_
    intro r_0 k_0 hk_0 hp_0 hs_0 hn_0
    have hl_0 : r_0.length ≤ 4 := hs_0.len rfl
    have ha_0 := ha.ext hp_0
    exact e2_fromM hen ha_0 hcall (e2_cutA_ok (e2_fa (fun al st E h hc => hn_0 al st E h hc) e2_fz)) (hC []) (X := e2x_59) ex2_59 66 ck_a170_0
  have EN_0 := e2_entL (u := 3) (j := 5) (lo := 2147483648) (hi := 2147483649) hl0 rfl rfl rfl ci_a170_0 cj_a170_0 L_0
  exact e2_from hen ha hcall (e2_cutA_ok (e2_fa (fun al st E h hc => EN_0 al st E h hc) e2_fz)) (hC []) (X := e2x_59) ex2_59 0 ck_a170_e
/-! a171 X3_parseLevel -/
def as_a171 : List ev_V := [(2, 33, 0), (2, 27, 0), (0, 1, 0), (0, 0, 0)]
def E_a171 : e2_E := [(2147483648, 2147583648, 0, 0), (2147483652, 2147483668, 1, 0), (2147483648, 2147485248, 2, 0)]
noncomputable def f_a171 : ev_H := (an606 : e2_Q8)
noncomputable def q_a171_0 : ev_H := (an606 : e2_Q8)
noncomputable def rs_a171 : e2_Rs := [((11, 2147483648, 2147483649), q_a171_0)]
noncomputable def s_a171 : e2_Sm := (59, as_a171, E_a171, f_a171, rs_a171)
noncomputable def S_a171 : List e2_Sm := [s_a37, s_a170]
noncomputable def I_a171 : List e2_In := [(19, 2, e2x_19), (20, 2, e2x_20), (60, 1, e2x_60)]
set_option maxRecDepth 1000000 in
theorem co_a171 : e2_okSB E_a171.length as_a171 f_a171 rs_a171 = true := by decide +kernel
def al_a171_0 : List ev_V := [(2, 33, 0), (2, 27, 0), (0, 1, 0), (0, 0, 0), (0, 30, 0), (1, 3, 4294967296), (9, 0, 0)]
def E_a171_0 : e2_E := [(2147483648, 2147583648, 0, 0), (2147483652, 2147483668, 1, 0), (2147483648, 2147485248, 2, 0), (2147483648, 2147483678, 3, 0)]
noncomputable def h_a171_0 : ev_H := (an606 : e2_Q8)
noncomputable def cl_a171_e : List (Nat × e2_S) := [(66, e2_cutL (al_a171_0.set 5 (11, 2147483648, 2147483678)) 3 (E_a171_0.take 3) h_a171_0)]
set_option maxRecDepth 1000000 in
theorem ck_a171_e : e2_run (e2_cal S_a171 I_a171 4000 2) (e2_fin rs_a171) e2x_59 (e2_bpL cl_a171_e) (e2_cutA cl_a171_e) 4000 (e2_seek e2x_59 0) (e2_al 7 as_a171) [] E_a171 f_a171 = true := by decide +kernel
noncomputable def cl_a171_0 : List (Nat × e2_S) := [(66, e2_cutL (al_a171_0.set 5 (13, 11, 2147483678)) 3 (E_a171_0.take 3) h_a171_0)]
set_option maxRecDepth 1000000 in
theorem ck_a171_0 : e2_runM (e2_cal S_a171 I_a171 4000 2) (e2_fin rs_a171) e2x_59 (e2_bpL cl_a171_0) (e2_cutA cl_a171_0) 4000 (e2_seek e2x_59 66) al_a171_0 [] E_a171_0 h_a171_0 = true := by decide +kernel
set_option maxRecDepth 1000000 in
theorem ci_a171_0 : e2_idl 3 (al_a171_0.set 5 (9, 0, 0)) = true := by decide +kernel
set_option maxRecDepth 1000000 in
theorem cj_a171_0 : e2_idh 3 8 h_a171_0 = true := by decide +kernel
theorem cs_a171 (hen : en_ok) (l : Launch) (hh : e2_hand_a l) : e2_smOk l 211 s_a171 := by
  refine e2_conG (H := 208) (n := 2) (C := evd_59) (S := S_a171) (I := I_a171) (fuel := 4000) hen ei_59 (e2_fa ((cs_a37 hen l hh).mono (by decide)) (e2_fa (cs_a170 hen l hh) e2_fz)) (e2_fa ein_19 (e2_fa ein_20 (e2_fa ein_60 e2_fz))) (by decide) co_a171 fun M d _ hC hcall p e R s m args below meth c Q D cA A ads r0 ha hl0 => ?_
  have L_0 : e2_gdM M p l e R s m args below meth c Q D cA A ads r0 66 al_a171_0 [] E_a171_0 h_a171_0 := by
    refine e2_indL (u := 3) (j := 5) (lo := 2147483648) (hi := 2147483678) (b := 3) (dd := 0) hl0 (by decide) rfl rfl (Or.inr ⟨rfl, rfl⟩) rfl ci_a171_0 cj_a171_0 ?_
    intro r_0 k_0 hk_0 hp_0 hs_0 hn_0
    have hl_0 : r_0.length ≤ 4 := hs_0.len rfl
    have ha_0 := ha.ext hp_0
    exact e2_fromM hen ha_0 hcall (e2_cutA_ok (e2_fa (fun al st E h hc => hn_0 al st E h hc) e2_fz)) (hC []) (X := e2x_59) ex2_59 66 ck_a171_0
  have EN_0 := e2_entL (u := 3) (j := 5) (lo := 2147483648) (hi := 2147483678) hl0 rfl rfl rfl ci_a171_0 cj_a171_0 L_0
  exact e2_from hen ha hcall (e2_cutA_ok (e2_fa (fun al st E h hc => EN_0 al st E h hc) e2_fz)) (hC []) (X := e2x_59) ex2_59 0 ck_a171_e
/-! a172 X3_parseLevel -/
def as_a172 : List ev_V := [(2, 33, 0), (2, 27, 0), (0, 0, 0), (0, 0, 0)]
def E_a172 : e2_E := [(2147483648, 2147583648, 0, 0), (2147483652, 2147483668, 1, 0), (2147483648, 2147485248, 2, 0)]
noncomputable def f_a172 : ev_H := (an606 : e2_Q8)
noncomputable def q_a172_0 : ev_H := (an606 : e2_Q8)
noncomputable def rs_a172 : e2_Rs := [((11, 2147483648, 2147483649), q_a172_0)]
noncomputable def s_a172 : e2_Sm := (59, as_a172, E_a172, f_a172, rs_a172)
noncomputable def S_a172 : List e2_Sm := [s_a37, s_a171]
noncomputable def I_a172 : List e2_In := [(19, 2, e2x_19), (20, 2, e2x_20), (60, 1, e2x_60)]
set_option maxRecDepth 1000000 in
theorem co_a172 : e2_okSB E_a172.length as_a172 f_a172 rs_a172 = true := by decide +kernel
def al_a172_0 : List ev_V := [(2, 33, 0), (2, 27, 0), (0, 0, 0), (0, 0, 0), (0, 30, 0), (1, 3, 4294967296), (9, 0, 0)]
def E_a172_0 : e2_E := [(2147483648, 2147583648, 0, 0), (2147483652, 2147483668, 1, 0), (2147483648, 2147485248, 2, 0), (2147483648, 2147483678, 3, 0)]
noncomputable def h_a172_0 : ev_H := (an606 : e2_Q8)
noncomputable def cl_a172_e : List (Nat × e2_S) := [(66, e2_cutL (al_a172_0.set 5 (11, 2147483648, 2147483678)) 3 (E_a172_0.take 3) h_a172_0)]
set_option maxRecDepth 1000000 in
theorem ck_a172_e : e2_run (e2_cal S_a172 I_a172 4000 2) (e2_fin rs_a172) e2x_59 (e2_bpL cl_a172_e) (e2_cutA cl_a172_e) 4000 (e2_seek e2x_59 0) (e2_al 7 as_a172) [] E_a172 f_a172 = true := by decide +kernel
noncomputable def cl_a172_0 : List (Nat × e2_S) := [(66, e2_cutL (al_a172_0.set 5 (13, 11, 2147483678)) 3 (E_a172_0.take 3) h_a172_0)]
set_option maxRecDepth 1000000 in
theorem ck_a172_0 : e2_runM (e2_cal S_a172 I_a172 4000 2) (e2_fin rs_a172) e2x_59 (e2_bpL cl_a172_0) (e2_cutA cl_a172_0) 4000 (e2_seek e2x_59 66) al_a172_0 [] E_a172_0 h_a172_0 = true := by decide +kernel
set_option maxRecDepth 1000000 in
theorem ci_a172_0 : e2_idl 3 (al_a172_0.set 5 (9, 0, 0)) = true := by decide +kernel
set_option maxRecDepth 1000000 in
theorem cj_a172_0 : e2_idh 3 8 h_a172_0 = true := by decide +kernel
theorem cs_a172 (hen : en_ok) (l : Launch) (hh : e2_hand_a l) : e2_smOk l 214 s_a172 := by
  refine e2_conG (H := 211) (n := 2) (C := evd_59) (S := S_a172) (I := I_a172) (fuel := 4000) hen ei_59 (e2_fa ((cs_a37 hen l hh).mono (by decide)) (e2_fa (cs_a171 hen l hh) e2_fz)) (e2_fa ein_19 (e2_fa ein_20 (e2_fa ein_60 e2_fz))) (by decide) co_a172 fun M d _ hC hcall p e R s m args below meth c Q D cA A ads r0 ha hl0 => ?_
  have L_0 : e2_gdM M p l e R s m args below meth c Q D cA A ads r0 66 al_a172_0 [] E_a172_0 h_a172_0 := by
    refine e2_indL (u := 3) (j := 5) (lo := 2147483648) (hi := 2147483678) (b := 3) (dd := 0) hl0 (by decide) rfl rfl (Or.inr ⟨rfl, rfl⟩) rfl ci_a172_0 cj_a172_0 ?_
    intro r_0 k_0 hk_0 hp_0 hs_0 hn_0
    have hl_0 : r_0.length ≤ 4 := hs_0.len rfl
    have ha_0 := ha.ext hp_0
    exact e2_fromM hen ha_0 hcall (e2_cutA_ok (e2_fa (fun al st E h hc => hn_0 al st E h hc) e2_fz)) (hC []) (X := e2x_59) ex2_59 66 ck_a172_0
  have EN_0 := e2_entL (u := 3) (j := 5) (lo := 2147483648) (hi := 2147483678) hl0 rfl rfl rfl ci_a172_0 cj_a172_0 L_0
  exact e2_from hen ha hcall (e2_cutA_ok (e2_fa (fun al st E h hc => EN_0 al st E h hc) e2_fz)) (hC []) (X := e2x_59) ex2_59 0 ck_a172_e
/-! a173 X3_parseFormula -/
def as_a173 : List ev_V := [(2, 33, 0), (2, 27, 0)]
def E_a173 : e2_E := [(2147483648, 2147583648, 0, 0), (2147483652, 2147483668, 1, 0), (2147483648, 2147485248, 2, 0)]
noncomputable def f_a173 : ev_H := (an606 : e2_Q8)
noncomputable def q_a173_0 : ev_H := (an606 : e2_Q8)
noncomputable def rs_a173 : e2_Rs := [((11, 2147483648, 2147483649), q_a173_0)]
noncomputable def s_a173 : e2_Sm := (58, as_a173, E_a173, f_a173, rs_a173)
noncomputable def S_a173 : List e2_Sm := [s_a37, s_a38, s_a172]
noncomputable def I_a173 : List e2_In := [(17, 1, e2x_17), (43, 2, e2x_43), (44, 3, e2x_44)]
set_option maxRecDepth 1000000 in
theorem ck_a173 : e2_run (e2_cal S_a173 I_a173 4000 2) (e2_fin rs_a173) e2x_58 (fun _ => false) (fun _ _ _ _ _ => false) 4000 (e2_seek e2x_58 0) (e2_al 2 as_a173) [] E_a173 f_a173 = true := by decide +kernel
set_option maxRecDepth 1000000 in
theorem co_a173 : e2_okSB E_a173.length as_a173 f_a173 rs_a173 = true := by decide +kernel
theorem cs_a173 (hen : en_ok) (l : Launch) (hh : e2_hand_a l) : e2_smOk l 217 s_a173 := e2_con0 (H := 214) (n := 2) (C := evd_58) (S := S_a173) (I := I_a173) (fuel := 4000) [] hen ei_58 (e2_fa ((cs_a37 hen l hh).mono (by decide)) (e2_fa ((cs_a38 hen l hh).mono (by decide)) (e2_fa (cs_a172 hen l hh) e2_fz))) (e2_fa ein_17 (e2_fa ein_43 (e2_fa ein_44 e2_fz))) (by decide) co_a173 ex2_58 ck_a173
