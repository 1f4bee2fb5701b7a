/-! CONTRACTS a, printed by a program -/
/-! a39 X3_passNumber -/
def as_a39 : List ev_V := [(2, 33, 0), (0, 0, 0), (0, 999, 0)]
def E_a39 : e2_E := [(2147483648, 2147583648, 0, 0), (2147483652, 2147483668, 1, 0), (2147483648, 2147485248, 2, 0)]
noncomputable def f_a39 : ev_H := (an558 : e2_Q8)
noncomputable def q_a39_0 : ev_H := (an558 : e2_Q8)
noncomputable def rs_a39 : e2_Rs := [((11, 2147483648, 2147483649), q_a39_0)]
noncomputable def s_a39 : e2_Sm := (47, as_a39, E_a39, f_a39, rs_a39)
noncomputable def S_a39 : List e2_Sm := [s_a37]
noncomputable def I_a39 : List e2_In := [(43, 2, e2x_43), (44, 3, e2x_44), (46, 3, e2x_46)]
set_option maxRecDepth 1000000 in
theorem ck_a39 : e2_run (e2_cal S_a39 I_a39 4000 3) (e2_fin rs_a39) e2x_47 (fun _ => false) (fun _ _ _ _ _ => false) 4000 (e2_seek e2x_47 0) (e2_al 3 as_a39) [] E_a39 f_a39 = true := by decide +kernel
set_option maxRecDepth 1000000 in
theorem co_a39 : e2_okSB E_a39.length as_a39 f_a39 rs_a39 = true := by decide +kernel
theorem cs_a39 (hen : en_ok) (l : Launch) (hh : e2_hand_a l) : e2_smOk l 66 s_a39 := e2_con0 (H := 62) (n := 3) (C := evd_47) (S := S_a39) (I := I_a39) (fuel := 4000) [] hen ei_47 (e2_fa (cs_a37 hen l hh) e2_fz) (e2_fa ein_43 (e2_fa ein_44 (e2_fa ein_46 e2_fz))) (by decide) co_a39 ex2_47 ck_a39
/-! a40 X3_indexOf -/
def as_a40 : List ev_V := [(5, 0, 0), (2, 20, 0), (11, 2147483648, 2147483656)]
def E_a40 : e2_E := [(2147483648, 2147583648, 0, 0), (2147483652, 2147483668, 1, 0)]
def ac166 : ev_C := (53, [(0, 8, 0)])
def an559 : e2_Q1 := (ac166, ac3)
def an560 : e2_Q2 := (an559, an39)
def an561 : e2_Q3 := (an560, an43)
def an562 : e2_Q4 := (an37, an561)
def an563 : e2_Q5 := (an562, an60)
def an564 : e2_Q6 := (an30, an563)
def an565 : e2_Q7 := (an564, an429)
def an566 : e2_Q8 := (an565, an434)
noncomputable def f_a40 : ev_H := (an566 : e2_Q8)
noncomputable def q_a40_0 : ev_H := (an566 : e2_Q8)
noncomputable def rs_a40 : e2_Rs := [((11, 2147483647, 2147483655), q_a40_0)]
noncomputable def s_a40 : e2_Sm := (48, as_a40, E_a40, f_a40, rs_a40)
noncomputable def S_a40 : List e2_Sm := []
noncomputable def I_a40 : List e2_In := []
set_option maxRecDepth 1000000 in
theorem co_a40 : e2_okSB E_a40.length as_a40 f_a40 rs_a40 = true := by decide +kernel
def al_a40_0 : List ev_V := [(5, 0, 0), (9, 0, 0), (2, 20, 0), (11, 2147483648, 2147483656), (1, 2, 4294967296)]
def E_a40_0 : e2_E := [(2147483648, 2147583648, 0, 0), (2147483652, 2147483668, 1, 0), (2147483648, 2147483656, 2, 0)]
noncomputable def h_a40_0 : ev_H := (an566 : e2_Q8)
noncomputable def cl_a40_e : List (Nat × e2_S) := [(3, e2_cutL (al_a40_0.set 4 (11, 2147483648, 2147483656)) 2 (E_a40_0.take 2) h_a40_0)]
set_option maxRecDepth 1000000 in
theorem ck_a40_e : e2_run (e2_cal S_a40 I_a40 4000 0) (e2_fin rs_a40) e2x_48 (e2_bpL cl_a40_e) (e2_cutA cl_a40_e) 4000 (e2_seek e2x_48 0) (e2_al 5 as_a40) [] E_a40 f_a40 = true := by decide +kernel
noncomputable def cl_a40_0 : List (Nat × e2_S) := [(3, e2_cutL (al_a40_0.set 4 (13, 10, 2147483656)) 2 (E_a40_0.take 2) h_a40_0)]
set_option maxRecDepth 1000000 in
theorem ck_a40_0 : e2_runM (e2_cal S_a40 I_a40 4000 0) (e2_fin rs_a40) e2x_48 (e2_bpL cl_a40_0) (e2_cutA cl_a40_0) 4000 (e2_seek e2x_48 3) al_a40_0 [] E_a40_0 h_a40_0 = true := by decide +kernel
set_option maxRecDepth 1000000 in
theorem ci_a40_0 : e2_idl 2 (al_a40_0.set 4 (9, 0, 0)) = true := by decide +kernel
set_option maxRecDepth 1000000 in
theorem cj_a40_0 : e2_idh 2 8 h_a40_0 = true := by decide +kernel
theorem cs_a40 (hen : en_ok) (l : Launch) : e2_smOk l 1 s_a40 := by
  refine e2_conG (H := 0) (n := 0) (C := evd_48) (S := S_a40) (I := I_a40) (fuel := 4000) hen ei_48 e2_fz e2_fz (by decide) co_a40 fun M d _ hC hcall p e R s m args below meth c Q D cA A ads r0 ha hl0 => ?_
  have L_0 : e2_gdM M p l e R s m args below meth c Q D cA A ads r0 3 al_a40_0 [] E_a40_0 h_a40_0 := by
    refine e2_indL (u := 2) (j := 4) (lo := 2147483648) (hi := 2147483656) (b := 2) (dd := 0) hl0 (by decide) rfl rfl (Or.inr ⟨rfl, rfl⟩) rfl ci_a40_0 cj_a40_0 ?_
    intro r_0 k_0 hk_0 hp_0 hs_0 hn_0
    have hl_0 : r_0.length ≤ 3 := hs_0.len rfl
    have ha_0 := ha.ext hp_0
    exact e2_fromM hen ha_0 hcall (e2_cutA_ok (e2_fa (fun al st E h hc => hn_0 al st E h hc) e2_fz)) (hC []) (X := e2x_48) ex2_48 3 ck_a40_0
  have EN_0 := e2_entL (u := 2) (j := 4) (lo := 2147483648) (hi := 2147483656) hl0 rfl rfl rfl ci_a40_0 cj_a40_0 L_0
  exact e2_from hen ha hcall (e2_cutA_ok (e2_fa (fun al st E h hc => EN_0 al st E h hc) e2_fz)) (hC []) (X := e2x_48) ex2_48 0 ck_a40_e
/-! a41 X3_isKnownName -/
def as_a41 : List ev_V := [(2, 33, 0), (2, 20, 0), (11, 2147483648, 2147483656)]
def E_a41 : e2_E := [(2147483648, 2147583648, 0, 0), (2147483652, 2147483668, 1, 0), (2147483648, 2147485248, 2, 0)]
def an567 : e2_Q7 := (an564, an125)
def an568 : e2_Q7 := (an556, an433)
def an569 : e2_Q8 := (an567, an568)
noncomputable def f_a41 : ev_H := (an569 : e2_Q8)
noncomputable def q_a41_0 : ev_H := (an569 : e2_Q8)
noncomputable def rs_a41 : e2_Rs := [((11, 2147483648, 2147483649), q_a41_0)]
noncomputable def s_a41 : e2_Sm := (50, as_a41, E_a41, f_a41, rs_a41)
noncomputable def S_a41 : List e2_Sm := [s_a40]
noncomputable def I_a41 : List e2_In := [(43, 2, e2x_43), (44, 3, e2x_44)]
set_option maxRecDepth 1000000 in
theorem ck_a41 : e2_run (e2_cal S_a41 I_a41 4000 2) (e2_fin rs_a41) e2x_50 (fun _ => false) (fun _ _ _ _ _ => false) 4000 (e2_seek e2x_50 0) (e2_al 3 as_a41) [] E_a41 f_a41 = true := by decide +kernel
set_option maxRecDepth 1000000 in
theorem co_a41 : e2_okSB E_a41.length as_a41 f_a41 rs_a41 = true := by decide +kernel
theorem cs_a41 (hen : en_ok) (l : Launch) : e2_smOk l 4 s_a41 := e2_con0 (H := 1) (n := 2) (C := evd_50) (S := S_a41) (I := I_a41) (fuel := 4000) [] hen ei_50 (e2_fa (cs_a40 hen l) e2_fz) (e2_fa ein_43 (e2_fa ein_44 e2_fz)) (by decide) co_a41 ex2_50 ck_a41
/-! a42 X3_parseBarn -/
def as_a42 : List ev_V := [(2, 33, 0)]
def E_a42 : e2_E := [(2147483648, 2147583648, 0, 0), (2147483652, 2147483668, 1, 0), (2147483648, 2147485248, 2, 0)]
def ac167 : ev_C := (8, [(11, 2147483652, 2147483668), (11, 2147483648, 2147483656), (11, 0, 4294967295), (2, 19, 0), (2, 25, 0), (2, 26, 0), (11, 2147483648, 2147483652), (11, 0, 4294967295), (11, 0, 4294967295), (11, 0, 4294967295), (2, 27, 0), (2, 30, 0), (2, 18, 0), (2, 20, 0), (2, 21, 0), (2, 22, 0), (2, 23, 0), (2, 24, 0)])
def an570 : e2_Q1 := (ac167, ac3)
def an571 : e2_Q2 := (an570, an135)
def an572 : e2_Q3 := (an571, an139)
def an573 : e2_Q4 := (an553, an572)
def an574 : e2_Q5 := (an573, an156)
def an575 : e2_Q6 := (an574, an188)
def an576 : e2_Q7 := (an575, an252)
def an577 : e2_Q8 := (an126, an576)
noncomputable def f_a42 : ev_H := (an577 : e2_Q8)
noncomputable def q_a42_0 : ev_H := (an577 : e2_Q8)
noncomputable def rs_a42 : e2_Rs := [((11, 2147483648, 2147483649), q_a42_0)]
noncomputable def s_a42 : e2_Sm := (56, as_a42, E_a42, f_a42, rs_a42)
noncomputable def S_a42 : List e2_Sm := [s_a37, s_a38]
noncomputable def I_a42 : List e2_In := [(43, 2, e2x_43), (44, 3, e2x_44), (46, 3, e2x_46), (159, 2, e2x_159), (291, 1, e2x_291)]
set_option maxRecDepth 1000000 in
theorem ck_a42 : e2_run (e2_cal S_a42 I_a42 4000 3) (e2_fin rs_a42) e2x_56 (fun _ => false) (fun _ _ _ _ _ => false) 4000 (e2_seek e2x_56 0) (e2_al 1 as_a42) [] E_a42 f_a42 = true := by decide +kernel
set_option maxRecDepth 1000000 in
theorem co_a42 : e2_okSB E_a42.length as_a42 f_a42 rs_a42 = true := by decide +kernel
theorem cs_a42 (hen : en_ok) (l : Launch) (hh : e2_hand_a l) : e2_smOk l 69 s_a42 := e2_con0 (H := 65) (n := 3) (C := evd_56) (S := S_a42) (I := I_a42) (fuel := 4000) [] hen ei_56 (e2_fa ((cs_a37 hen l hh).mono (by decide)) (e2_fa (cs_a38 hen l hh) e2_fz)) (e2_fa ein_43 (e2_fa ein_44 (e2_fa ein_46 (e2_fa ein_159 (e2_fa ein_291 e2_fz))))) (by decide) co_a42 ex2_56 ck_a42
/-! a43 X3_parseDraw -/
def as_a43 : List ev_V := [(2, 33, 0)]
def E_a43 : e2_E := [(2147483648, 2147583648, 0, 0), (2147483652, 2147483668, 1, 0), (2147483648, 2147485248, 2, 0)]
noncomputable def f_a43 : ev_H := (an577 : e2_Q8)
noncomputable def q_a43_0 : ev_H := (an577 : e2_Q8)
noncomputable def rs_a43 : e2_Rs := [((11, 2147483648, 2147483649), q_a43_0)]
noncomputable def s_a43 : e2_Sm := (57, as_a43, E_a43, f_a43, rs_a43)
noncomputable def S_a43 : List e2_Sm := [s_a37, s_a38, s_a39]
noncomputable def I_a43 : List e2_In := [(43, 2, e2x_43), (44, 3, e2x_44)]
set_option maxRecDepth 1000000 in
theorem ck_a43 : e2_run (e2_cal S_a43 I_a43 4000 2) (e2_fin rs_a43) e2x_57 (fun _ => false) (fun _ _ _ _ _ => false) 4000 (e2_seek e2x_57 0) (e2_al 1 as_a43) [] E_a43 f_a43 = true := by decide +kernel
set_option maxRecDepth 1000000 in
theorem co_a43 : e2_okSB E_a43.length as_a43 f_a43 rs_a43 = true := by decide +kernel
theorem cs_a43 (hen : en_ok) (l : Launch) (hh : e2_hand_a l) : e2_smOk l 69 s_a43 := e2_con0 (H := 66) (n := 2) (C := evd_57) (S := S_a43) (I := I_a43) (fuel := 4000) [] hen ei_57 (e2_fa ((cs_a37 hen l hh).mono (by decide)) (e2_fa ((cs_a38 hen l hh).mono (by decide)) (e2_fa (cs_a39 hen l hh) e2_fz))) (e2_fa ein_43 (e2_fa ein_44 e2_fz)) (by decide) co_a43 ex2_57 ck_a43
/-! a44 X3_parseUnit -/
def as_a44 : List ev_V := [(2, 33, 0), (2, 30, 0), (0, 7, 0)]
def E_a44 : e2_E := [(2147483648, 2147583648, 0, 0), (2147483652, 2147483668, 1, 0), (2147483648, 2147485248, 2, 0)]
def ac168 : ev_C := (0, [(2, 31, 0), (2, 32, 0), (11, 0, 4294967295), (11, 2147483648, 2147483948)])
def an578 : e2_Q1 := (ac168, ac3)
def an579 : e2_Q2 := (an578, an117)
def an580 : e2_Q3 := (an579, an121)
def an581 : e2_Q4 := (an115, an580)
def an582 : e2_Q5 := (an108, an581)
def an583 : e2_Q6 := (an93, an582)
def an584 : e2_Q7 := (an62, an583)
def an585 : e2_Q2 := (an436, an244)
def an586 : e2_Q3 := (an585, an248)
def an587 : e2_Q4 := (an242, an586)
def an588 : e2_Q5 := (an235, an587)
def an589 : e2_Q6 := (an220, an588)
def an590 : e2_Q7 := (an575, an589)
def an591 : e2_Q8 := (an584, an590)
noncomputable def f_a44 : ev_H := (an591 : e2_Q8)
noncomputable def q_a44_0 : ev_H := (an591 : e2_Q8)
noncomputable def rs_a44 : e2_Rs := [((11, 2147483648, 2147483649), q_a44_0)]
noncomputable def s_a44 : e2_Sm := (62, as_a44, E_a44, f_a44, rs_a44)
noncomputable def S_a44 : List e2_Sm := [s_a37]
noncomputable def I_a44 : List e2_In := [(18, 2, e2x_18), (19, 2, e2x_19), (20, 2, e2x_20), (43, 2, e2x_43), (44, 3, e2x_44)]
set_option maxRecDepth 1000000 in
theorem ck_a44 : e2_run (e2_cal S_a44 I_a44 4000 2) (e2_fin rs_a44) e2x_62 (fun _ => false) (fun _ _ _ _ _ => false) 4000 (e2_seek e2x_62 0) (e2_al 7 as_a44) [] E_a44 f_a44 = true := by decide +kernel
set_option maxRecDepth 1000000 in
theorem co_a44 : e2_okSB E_a44.length as_a44 f_a44 rs_a44 = true := by decide +kernel
theorem cs_a44 (hen : en_ok) (l : Launch) (hh : e2_hand_a l) : e2_smOk l 65 s_a44 := e2_con0 (H := 62) (n := 2) (C := evd_62) (S := S_a44) (I := I_a44) (fuel := 4000) [] hen ei_62 (e2_fa (cs_a37 hen l hh) e2_fz) (e2_fa ein_18 (e2_fa ein_19 (e2_fa ein_20 (e2_fa ein_43 (e2_fa ein_44 e2_fz))))) (by decide) co_a44 ex2_62 ck_a44
/-! a45 X3_parseLevel -/
def as_a45 : List ev_V := [(2, 33, 0), (2, 30, 0), (0, 5, 0), (0, 7, 0)]
def E_a45 : e2_E := [(2147483648, 2147583648, 0, 0), (2147483652, 2147483668, 1, 0), (2147483648, 2147485248, 2, 0)]
noncomputable def f_a45 : ev_H := (an591 : e2_Q8)
noncomputable def q_a45_0 : ev_H := (an591 : e2_Q8)
noncomputable def rs_a45 : e2_Rs := [((11, 2147483648, 2147483649), q_a45_0)]
noncomputable def s_a45 : e2_Sm := (59, as_a45, E_a45, f_a45, rs_a45)
noncomputable def S_a45 : List e2_Sm := [s_a44]
noncomputable def I_a45 : List e2_In := []
set_option maxRecDepth 1000000 in
theorem ck_a45 : e2_run (e2_cal S_a45 I_a45 4000 0) (e2_fin rs_a45) e2x_59 (fun _ => false) (fun _ _ _ _ _ => false) 4000 (e2_seek e2x_59 0) (e2_al 7 as_a45) [] E_a45 f_a45 = true := by decide +kernel
set_option maxRecDepth 1000000 in
theorem co_a45 : e2_okSB E_a45.length as_a45 f_a45 rs_a45 = true := by decide +kernel
theorem cs_a45 (hen : en_ok) (l : Launch) (hh : e2_hand_a l) : e2_smOk l 66 s_a45 := e2_con0 (H := 65) (n := 0) (C := evd_59) (S := S_a45) (I := I_a45) (fuel := 4000) [] hen ei_59 (e2_fa (cs_a44 hen l hh) e2_fz) e2_fz (by decide) co_a45 ex2_59 ck_a45
/-! a46 X3_parseLevel -/
def as_a46 : List ev_V := [(2, 33, 0), (2, 30, 0), (0, 4, 0), (0, 7, 0)]
def E_a46 : e2_E := [(2147483648, 2147583648, 0, 0), (2147483652, 2147483668, 1, 0), (2147483648, 2147485248, 2, 0)]
noncomputable def f_a46 : ev_H := (an591 : e2_Q8)
noncomputable def q_a46_0 : ev_H := (an591 : e2_Q8)
noncomputable def rs_a46 : e2_Rs := [((11, 2147483648, 2147483649), q_a46_0)]
noncomputable def s_a46 : e2_Sm := (59, as_a46, E_a46, f_a46, rs_a46)
noncomputable def S_a46 : List e2_Sm := [s_a37, s_a45]
noncomputable def I_a46 : List e2_In := [(19, 2, e2x_19), (20, 2, e2x_20), (60, 1, e2x_60)]
set_option maxRecDepth 1000000 in
theorem co_a46 : e2_okSB E_a46.length as_a46 f_a46 rs_a46 = true := by decide +kernel
def al_a46_0 : List ev_V := [(2, 33, 0), (2, 30, 0), (0, 4, 0), (0, 7, 0), (0, 30, 0), (1, 3, 4294967296), (9, 0, 0)]
def E_a46_0 : e2_E := [(2147483648, 2147583648, 0, 0), (2147483652, 2147483668, 1, 0), (2147483648, 2147485248, 2, 0), (2147483648, 2147483678, 3, 0)]
noncomputable def h_a46_0 : ev_H := (an591 : e2_Q8)
noncomputable def cl_a46_e : List (Nat × e2_S) := [(66, e2_cutL (al_a46_0.set 5 (11, 2147483648, 2147483678)) 3 (E_a46_0.take 3) h_a46_0)]
set_option maxRecDepth 1000000 in
theorem ck_a46_e : e2_run (e2_cal S_a46 I_a46 4000 2) (e2_fin rs_a46) e2x_59 (e2_bpL cl_a46_e) (e2_cutA cl_a46_e) 4000 (e2_seek e2x_59 0) (e2_al 7 as_a46) [] E_a46 f_a46 = true := by decide +kernel
noncomputable def cl_a46_0 : List (Nat × e2_S) := [(66, e2_cutL (al_a46_0.set 5 (13, 11, 2147483678)) 3 (E_a46_0.take 3) h_a46_0)]
set_option maxRecDepth 1000000 in
theorem ck_a46_0 : e2_runM (e2_cal S_a46 I_a46 4000 2) (e2_fin rs_a46) e2x_59 (e2_bpL cl_a46_0) (e2_cutA cl_a46_0) 4000 (e2_seek e2x_59 66) al_a46_0 [] E_a46_0 h_a46_0 = true := by decide +kernel
set_option maxRecDepth 1000000 in
theorem ci_a46_0 : e2_idl 3 (al_a46_0.set 5 (9, 0, 0)) = true := by decide +kernel
set_option maxRecDepth 1000000 in
theorem cj_a46_0 : e2_idh 3 8 h_a46_0 = true := by decide +kernel
theorem cs_a46 (hen : en_ok) (l : Launch) (hh : e2_hand_a l) : e2_smOk l 69 s_a46 := by
  refine e2_conG (H := 66) (n := 2) (C := evd_59) (S := S_a46) (I := I_a46) (fuel := 4000) hen ei_59 (e2_fa ((cs_a37 hen l hh).mono (by decide)) (e2_fa (cs_a45 hen l hh) e2_fz)) (e2_fa ein_19 (e2_fa ein_20 (e2_fa ein_60 e2_fz))) (by decide) co_a46 fun M d _ hC hcall p e R s m args below meth c Q D cA A ads r0 ha hl0 => ?_
  have L_0 : e2_gdM M p l e R s m args below meth c Q D cA A ads r0 66 al_a46_0 [] E_a46_0 h_a46_0 := by
    refine e2_indL (u := 3) (j := 5) (lo := 2147483648) (hi := 2147483678) (b := 3) (dd := 0) hl0 (by decide) rfl rfl (Or.inr ⟨rfl, rfl⟩) rfl ci_a46_0 cj_a46_0 ?_
    intro r_0 k_0 hk_0 hp_0 hs_0 hn_0
    have hl_0 : r_0.length ≤ 4 := hs_0.len rfl
    have ha_0 := ha.ext hp_0
    exact e2_fromM hen ha_0 hcall (e2_cutA_ok (e2_fa (fun al st E h hc => hn_0 al st E h hc) e2_fz)) (hC []) (X := e2x_59) ex2_59 66 ck_a46_0
  have EN_0 := e2_entL (u := 3) (j := 5) (lo := 2147483648) (hi := 2147483678) hl0 rfl rfl rfl ci_a46_0 cj_a46_0 L_0
  exact e2_from hen ha hcall (e2_cutA_ok (e2_fa (fun al st E h hc => EN_0 al st E h hc) e2_fz)) (hC []) (X := e2x_59) ex2_59 0 ck_a46_e
/-! a47 X3_parseLevel -/
def as_a47 : List ev_V := [(2, 33, 0), (2, 30, 0), (0, 3, 0), (0, 7, 0)]
def E_a47 : e2_E := [(2147483648, 2147583648, 0, 0), (2147483652, 2147483668, 1, 0), (2147483648, 2147485248, 2, 0)]
noncomputable def f_a47 : ev_H := (an591 : e2_Q8)
noncomputable def q_a47_0 : ev_H := (an591 : e2_Q8)
noncomputable def rs_a47 : e2_Rs := [((11, 2147483648, 2147483649), q_a47_0)]
noncomputable def s_a47 : e2_Sm := (59, as_a47, E_a47, f_a47, rs_a47)
noncomputable def S_a47 : List e2_Sm := [s_a37, s_a46]
noncomputable def I_a47 : List e2_In := [(19, 2, e2x_19), (20, 2, e2x_20), (60, 1, e2x_60)]
set_option maxRecDepth 1000000 in
theorem co_a47 : e2_okSB E_a47.length as_a47 f_a47 rs_a47 = true := by decide +kernel
def al_a47_0 : List ev_V := [(2, 33, 0), (2, 30, 0), (0, 3, 0), (0, 7, 0), (0, 30, 0), (1, 3, 4294967296), (9, 0, 0)]
def E_a47_0 : e2_E := [(2147483648, 2147583648, 0, 0), (2147483652, 2147483668, 1, 0), (2147483648, 2147485248, 2, 0), (2147483648, 2147483678, 3, 0)]
noncomputable def h_a47_0 : ev_H := (an591 : e2_Q8)
noncomputable def cl_a47_e : List (Nat × e2_S) := [(66, e2_cutL (al_a47_0.set 5 (11, 2147483648, 2147483678)) 3 (E_a47_0.take 3) h_a47_0)]
set_option maxRecDepth 1000000 in
theorem ck_a47_e : e2_run (e2_cal S_a47 I_a47 4000 2) (e2_fin rs_a47) e2x_59 (e2_bpL cl_a47_e) (e2_cutA cl_a47_e) 4000 (e2_seek e2x_59 0) (e2_al 7 as_a47) [] E_a47 f_a47 = true := by decide +kernel
noncomputable def cl_a47_0 : List (Nat × e2_S) := [(66, e2_cutL (al_a47_0.set 5 (13, 11, 2147483678)) 3 (E_a47_0.take 3) h_a47_0)]
set_option maxRecDepth 1000000 in
theorem ck_a47_0 : e2_runM (e2_cal S_a47 I_a47 4000 2) (e2_fin rs_a47) e2x_59 (e2_bpL cl_a47_0) (e2_cutA cl_a47_0) 4000 (e2_seek e2x_59 66) al_a47_0 [] E_a47_0 h_a47_0 = true := by decide +kernel
set_option maxRecDepth 1000000 in
theorem ci_a47_0 : e2_idl 3 (al_a47_0.set 5 (9, 0, 0)) = true := by decide +kernel
set_option maxRecDepth 1000000 in
theorem cj_a47_0 : e2_idh 3 8 h_a47_0 = true := by decide +kernel
theorem cs_a47 (hen : en_ok) (l : Launch) (hh : e2_hand_a l) : e2_smOk l 72 s_a47 := by
  refine e2_conG (H := 69) (n := 2) (C := evd_59) (S := S_a47) (I := I_a47) (fuel := 4000) hen ei_59 (e2_fa ((cs_a37 hen l hh).mono (by decide)) (e2_fa (cs_a46 hen l hh) e2_fz)) (e2_fa ein_19 (e2_fa ein_20 (e2_fa ein_60 e2_fz))) (by decide) co_a47 fun M d _ hC hcall p e R s m args below meth c Q D cA A ads r0 ha hl0 => ?_
  have L_0 : e2_gdM M p l e R s m args below meth c Q D cA A ads r0 66 al_a47_0 [] E_a47_0 h_a47_0 := by
    refine e2_indL (u := 3) (j := 5) (lo := 2147483648) (hi := 2147483678) (b := 3) (dd := 0) hl0 (by decide) rfl rfl (Or.inr ⟨rfl, rfl⟩) rfl ci_a47_0 cj_a47_0 ?_
    intro r_0 k_0 hk_0 hp_0 hs_0 hn_0
    have hl_0 : r_0.length ≤ 4 := hs_0.len rfl
    have ha_0 := ha.ext hp_0
    exact e2_fromM hen ha_0 hcall (e2_cutA_ok (e2_fa (fun al st E h hc => hn_0 al st E h hc) e2_fz)) (hC []) (X := e2x_59) ex2_59 66 ck_a47_0
  have EN_0 := e2_entL (u := 3) (j := 5) (lo := 2147483648) (hi := 2147483678) hl0 rfl rfl rfl ci_a47_0 cj_a47_0 L_0
  exact e2_from hen ha hcall (e2_cutA_ok (e2_fa (fun al st E h hc => EN_0 al st E h hc) e2_fz)) (hC []) (X := e2x_59) ex2_59 0 ck_a47_e
/-! a48 X3_parseNot -/
def as_a48 : List ev_V := [(2, 33, 0), (2, 30, 0), (0, 7, 0)]
def E_a48 : e2_E := [(2147483648, 2147583648, 0, 0), (2147483652, 2147483668, 1, 0), (2147483648, 2147485248, 2, 0)]
def an592 : e2_Q8 := (an126, an568)
noncomputable def f_a48 : ev_H := (an592 : e2_Q8)
noncomputable def q_a48_0 : ev_H := (an592 : e2_Q8)
noncomputable def rs_a48 : e2_Rs := [((0, 0, 0), q_a48_0)]
noncomputable def s_a48 : e2_Sm := (61, as_a48, E_a48, f_a48, rs_a48)
noncomputable def S_a48 : List e2_Sm := []
noncomputable def I_a48 : List e2_In := [(43, 2, e2x_43), (44, 3, e2x_44)]
set_option maxRecDepth 1000000 in
theorem ck_a48 : e2_run (e2_cal S_a48 I_a48 4000 2) (e2_fin rs_a48) e2x_61 (fun _ => false) (fun _ _ _ _ _ => false) 4000 (e2_seek e2x_61 0) (e2_al 3 as_a48) [] E_a48 f_a48 = true := by decide +kernel
set_option maxRecDepth 1000000 in
theorem co_a48 : e2_okSB E_a48.length as_a48 f_a48 rs_a48 = true := by decide +kernel
theorem cs_a48 (hen : en_ok) (l : Launch) : e2_smOk l 3 s_a48 := e2_con0 (H := 0) (n := 2) (C := evd_61) (S := S_a48) (I := I_a48) (fuel := 4000) [] hen ei_61 e2_fz (e2_fa ein_43 (e2_fa ein_44 e2_fz)) (by decide) co_a48 ex2_61 ck_a48
/-! a49 X3_parseLevel -/
def as_a49 : List ev_V := [(2, 33, 0), (2, 30, 0), (0, 2, 0), (0, 7, 0)]
def E_a49 : e2_E := [(2147483648, 2147583648, 0, 0), (2147483652, 2147483668, 1, 0), (2147483648, 2147485248, 2, 0)]
noncomputable def f_a49 : ev_H := (an591 : e2_Q8)
noncomputable def q_a49_0 : ev_H := (an591 : e2_Q8)
noncomputable def rs_a49 : e2_Rs := [((11, 2147483648, 2147483649), q_a49_0)]
noncomputable def s_a49 : e2_Sm := (59, as_a49, E_a49, f_a49, rs_a49)
noncomputable def S_a49 : List e2_Sm := [s_a37, s_a47, s_a48]
noncomputable def I_a49 : List e2_In := [(19, 2, e2x_19), (20, 2, e2x_20), (60, 1, e2x_60)]
set_option maxRecDepth 1000000 in
theorem co_a49 : e2_okSB E_a49.length as_a49 f_a49 rs_a49 = true := by decide +kernel
def al_a49_0 : List ev_V := [(2, 33, 0), (2, 30, 0), (0, 2, 0), (0, 7, 0), (0, 1, 0), (1, 3, 4294967296), (9, 0, 0)]
def E_a49_0 : e2_E := [(2147483648, 2147583648, 0, 0), (2147483652, 2147483668, 1, 0), (2147483648, 2147485248, 2, 0), (2147483648, 2147483649, 3, 0)]
noncomputable def h_a49_0 : ev_H := (an591 : e2_Q8)
noncomputable def cl_a49_e : List (Nat × e2_S) := [(66, e2_cutL (al_a49_0.set 5 (11, 2147483648, 2147483649)) 3 (E_a49_0.take 3) h_a49_0)]
set_option maxRecDepth 1000000 in
theorem ck_a49_e : e2_run (e2_cal S_a49 I_a49 4000 2) (e2_fin rs_a49) e2x_59 (e2_bpL cl_a49_e) (e2_cutA cl_a49_e) 4000 (e2_seek e2x_59 0) (e2_al 7 as_a49) [] E_a49 f_a49 = true := by decide +kernel
noncomputable def cl_a49_0 : List (Nat × e2_S) := [(66, e2_cutL (al_a49_0.set 5 (13, 11, 2147483649)) 3 (E_a49_0.take 3) h_a49_0)]
set_option maxRecDepth 1000000 in
theorem ck_a49_0 : e2_runM (e2_cal S_a49 I_a49 4000 2) (e2_fin rs_a49) e2x_59 (e2_bpL cl_a49_0) (e2_cutA cl_a49_0) 4000 (e2_seek e2x_59 66) al_a49_0 [] E_a49_0 h_a49_0 = true := by decide +kernel
set_option maxRecDepth 1000000 in
theorem ci_a49_0 : e2_idl 3 (al_a49_0.set 5 (9, 0, 0)) = true := by decide +kernel
set_option maxRecDepth 1000000 in
theorem cj_a49_0 : e2_idh 3 8 h_a49_0 = true := by decide +kernel
theorem cs_a49 (hen : en_ok) (l : Launch) (hh : e2_hand_a l) : e2_smOk l 75 s_a49 := by
  refine e2_conG (H := 72) (n := 2) (C := evd_59) (S := S_a49) (I := I_a49) (fuel := 4000) hen ei_59 (e2_fa ((cs_a37 hen l hh).mono (by decide)) (e2_fa (cs_a47 hen l hh) (e2_fa ((cs_a48 hen l).mono (by decide)) e2_fz))) (e2_fa ein_19 (e2_fa ein_20 (e2_fa ein_60 e2_fz))) (by decide) co_a49 fun M d _ hC hcall p e R s m args below meth c Q D cA A ads r0 ha hl0 => ?_
  have L_0 : e2_gdM M p l e R s m args below meth c Q D cA A ads r0 66 al_a49_0 [] E_a49_0 h_a49_0 := by
    refine e2_indL (u := 3) (j := 5) (lo := 2147483648) (hi := 2147483649) (b := 3) (dd := 0) hl0 (by decide) rfl rfl (Or.inr ⟨rfl, rfl⟩) rfl ci_a49_0 cj_a49_0 ?_
    intro r_0 k_0 hk_0 hp_0 hs_0 hn_0
    have hl_0 : r_0.length ≤ 4 := hs_0.len rfl
    have ha_0 := ha.ext hp_0
    exact e2_fromM hen ha_0 hcall (e2_cutA_ok (e2_fa (fun al st E h hc => hn_0 al st E h hc) e2_fz)) (hC []) (X := e2x_59) ex2_59 66 ck_a49_0
  have EN_0 := e2_entL (u := 3) (j := 5) (lo := 2147483648) (hi := 2147483649) hl0 rfl rfl rfl ci_a49_0 cj_a49_0 L_0
  exact e2_from hen ha hcall (e2_cutA_ok (e2_fa (fun al st E h hc => EN_0 al st E h hc) e2_fz)) (hC []) (X := e2x_59) ex2_59 0 ck_a49_e
/-! a50 X3_parseLevel -/
def as_a50 : List ev_V := [(2, 33, 0), (2, 30, 0), (0, 1, 0), (0, 7, 0)]
def E_a50 : e2_E := [(2147483648, 2147583648, 0, 0), (2147483652, 2147483668, 1, 0), (2147483648, 2147485248, 2, 0)]
noncomputable def f_a50 : ev_H := (an591 : e2_Q8)
noncomputable def q_a50_0 : ev_H := (an591 : e2_Q8)
noncomputable def rs_a50 : e2_Rs := [((11, 2147483648, 2147483649), q_a50_0)]
noncomputable def s_a50 : e2_Sm := (59, as_a50, E_a50, f_a50, rs_a50)
noncomputable def S_a50 : List e2_Sm := [s_a37, s_a49]
noncomputable def I_a50 : List e2_In := [(19, 2, e2x_19), (20, 2, e2x_20), (60, 1, e2x_60)]
set_option maxRecDepth 1000000 in
theorem co_a50 : e2_okSB E_a50.length as_a50 f_a50 rs_a50 = true := by decide +kernel
def al_a50_0 : List ev_V := [(2, 33, 0), (2, 30, 0), (0, 1, 0), (0, 7, 0), (0, 30, 0), (1, 3, 4294967296), (9, 0, 0)]
def E_a50_0 : e2_E := [(2147483648, 2147583648, 0, 0), (2147483652, 2147483668, 1, 0), (2147483648, 2147485248, 2, 0), (2147483648, 2147483678, 3, 0)]
noncomputable def h_a50_0 : ev_H := (an591 : e2_Q8)
noncomputable def cl_a50_e : List (Nat × e2_S) := [(66, e2_cutL (al_a50_0.set 5 (11, 2147483648, 2147483678)) 3 (E_a50_0.take 3) h_a50_0)]
set_option maxRecDepth 1000000 in
theorem ck_a50_e : e2_run (e2_cal S_a50 I_a50 4000 2) (e2_fin rs_a50) e2x_59 (e2_bpL cl_a50_e) (e2_cutA cl_a50_e) 4000 (e2_seek e2x_59 0) (e2_al 7 as_a50) [] E_a50 f_a50 = true := by decide +kernel
noncomputable def cl_a50_0 : List (Nat × e2_S) := [(66, e2_cutL (al_a50_0.set 5 (13, 11, 2147483678)) 3 (E_a50_0.take 3) h_a50_0)]
set_option maxRecDepth 1000000 in
theorem ck_a50_0 : e2_runM (e2_cal S_a50 I_a50 4000 2) (e2_fin rs_a50) e2x_59 (e2_bpL cl_a50_0) (e2_cutA cl_a50_0) 4000 (e2_seek e2x_59 66) al_a50_0 [] E_a50_0 h_a50_0 = true := by decide +kernel
set_option maxRecDepth 1000000 in
theorem ci_a50_0 : e2_idl 3 (al_a50_0.set 5 (9, 0, 0)) = true := by decide +kernel
set_option maxRecDepth 1000000 in
theorem cj_a50_0 : e2_idh 3 8 h_a50_0 = true := by decide +kernel
theorem cs_a50 (hen : en_ok) (l : Launch) (hh : e2_hand_a l) : e2_smOk l 78 s_a50 := by
  refine e2_conG (H := 75) (n := 2) (C := evd_59) (S := S_a50) (I := I_a50) (fuel := 4000) hen ei_59 (e2_fa ((cs_a37 hen l hh).mono (by decide)) (e2_fa (cs_a49 hen l hh) e2_fz)) (e2_fa ein_19 (e2_fa ein_20 (e2_fa ein_60 e2_fz))) (by decide) co_a50 fun M d _ hC hcall p e R s m args below meth c Q D cA A ads r0 ha hl0 => ?_
  have L_0 : e2_gdM M p l e R s m args below meth c Q D cA A ads r0 66 al_a50_0 [] E_a50_0 h_a50_0 := by
    refine e2_indL (u := 3) (j := 5) (lo := 2147483648) (hi := 2147483678) (b := 3) (dd := 0) hl0 (by decide) rfl rfl (Or.inr ⟨rfl, rfl⟩) rfl ci_a50_0 cj_a50_0 ?_
    intro r_0 k_0 hk_0 hp_0 hs_0 hn_0
    have hl_0 : r_0.length ≤ 4 := hs_0.len rfl
    have ha_0 := ha.ext hp_0
    exact e2_fromM hen ha_0 hcall (e2_cutA_ok (e2_fa (fun al st E h hc => hn_0 al st E h hc) e2_fz)) (hC []) (X := e2x_59) ex2_59 66 ck_a50_0
  have EN_0 := e2_entL (u := 3) (j := 5) (lo := 2147483648) (hi := 2147483678) hl0 rfl rfl rfl ci_a50_0 cj_a50_0 L_0
  exact e2_from hen ha hcall (e2_cutA_ok (e2_fa (fun al st E h hc => EN_0 al st E h hc) e2_fz)) (hC []) (X := e2x_59) ex2_59 0 ck_a50_e
/-! a51 X3_parseLevel -/
def as_a51 : List ev_V := [(2, 33, 0), (2, 30, 0), (0, 0, 0), (0, 7, 0)]
def E_a51 : e2_E := [(2147483648, 2147583648, 0, 0), (2147483652, 2147483668, 1, 0), (2147483648, 2147485248, 2, 0)]
noncomputable def f_a51 : ev_H := (an591 : e2_Q8)
noncomputable def q_a51_0 : ev_H := (an591 : e2_Q8)
noncomputable def rs_a51 : e2_Rs := [((11, 2147483648, 2147483649), q_a51_0)]
noncomputable def s_a51 : e2_Sm := (59, as_a51, E_a51, f_a51, rs_a51)
noncomputable def S_a51 : List e2_Sm := [s_a37, s_a50]
noncomputable def I_a51 : List e2_In := [(19, 2, e2x_19), (20, 2, e2x_20), (60, 1, e2x_60)]
set_option maxRecDepth 1000000 in
theorem co_a51 : e2_okSB E_a51.length as_a51 f_a51 rs_a51 = true := by decide +kernel
def al_a51_0 : List ev_V := [(2, 33, 0), (2, 30, 0), (0, 0, 0), (0, 7, 0), (0, 30, 0), (1, 3, 4294967296), (9, 0, 0)]
def E_a51_0 : e2_E := [(2147483648, 2147583648, 0, 0), (2147483652, 2147483668, 1, 0), (2147483648, 2147485248, 2, 0), (2147483648, 2147483678, 3, 0)]
noncomputable def h_a51_0 : ev_H := (an591 : e2_Q8)
noncomputable def cl_a51_e : List (Nat × e2_S) := [(66, e2_cutL (al_a51_0.set 5 (11, 2147483648, 2147483678)) 3 (E_a51_0.take 3) h_a51_0)]
set_option maxRecDepth 1000000 in
theorem ck_a51_e : e2_run (e2_cal S_a51 I_a51 4000 2) (e2_fin rs_a51) e2x_59 (e2_bpL cl_a51_e) (e2_cutA cl_a51_e) 4000 (e2_seek e2x_59 0) (e2_al 7 as_a51) [] E_a51 f_a51 = true := by decide +kernel
noncomputable def cl_a51_0 : List (Nat × e2_S) := [(66, e2_cutL (al_a51_0.set 5 (13, 11, 2147483678)) 3 (E_a51_0.take 3) h_a51_0)]
set_option maxRecDepth 1000000 in
theorem ck_a51_0 : e2_runM (e2_cal S_a51 I_a51 4000 2) (e2_fin rs_a51) e2x_59 (e2_bpL cl_a51_0) (e2_cutA cl_a51_0) 4000 (e2_seek e2x_59 66) al_a51_0 [] E_a51_0 h_a51_0 = true := by decide +kernel
set_option maxRecDepth 1000000 in
theorem ci_a51_0 : e2_idl 3 (al_a51_0.set 5 (9, 0, 0)) = true := by decide +kernel
set_option maxRecDepth 1000000 in
theorem cj_a51_0 : e2_idh 3 8 h_a51_0 = true := by decide +kernel
theorem cs_a51 (hen : en_ok) (l : Launch) (hh : e2_hand_a l) : e2_smOk l 81 s_a51 := by
  refine e2_conG (H := 78) (n := 2) (C := evd_59) (S := S_a51) (I := I_a51) (fuel := 4000) hen ei_59 (e2_fa ((cs_a37 hen l hh).mono (by decide)) (e2_fa (cs_a50 hen l hh) e2_fz)) (e2_fa ein_19 (e2_fa ein_20 (e2_fa ein_60 e2_fz))) (by decide) co_a51 fun M d _ hC hcall p e R s m args below meth c Q D cA A ads r0 ha hl0 => ?_
  have L_0 : e2_gdM M p l e R s m args below meth c Q D cA A ads r0 66 al_a51_0 [] E_a51_0 h_a51_0 := by
    refine e2_indL (u := 3) (j := 5) (lo := 2147483648) (hi := 2147483678) (b := 3) (dd := 0) hl0 (by decide) rfl rfl (Or.inr ⟨rfl, rfl⟩) rfl ci_a51_0 cj_a51_0 ?_
    intro r_0 k_0 hk_0 hp_0 hs_0 hn_0
    have hl_0 : r_0.length ≤ 4 := hs_0.len rfl
    have ha_0 := ha.ext hp_0
    exact e2_fromM hen ha_0 hcall (e2_cutA_ok (e2_fa (fun al st E h hc => hn_0 al st E h hc) e2_fz)) (hC []) (X := e2x_59) ex2_59 66 ck_a51_0
  have EN_0 := e2_entL (u := 3) (j := 5) (lo := 2147483648) (hi := 2147483678) hl0 rfl rfl rfl ci_a51_0 cj_a51_0 L_0
  exact e2_from hen ha hcall (e2_cutA_ok (e2_fa (fun al st E h hc => EN_0 al st E h hc) e2_fz)) (hC []) (X := e2x_59) ex2_59 0 ck_a51_e
/-! a52 X3_parseUnit -/
def as_a52 : List ev_V := [(2, 33, 0), (2, 30, 0), (0, 6, 0)]
def E_a52 : e2_E := [(2147483648, 2147583648, 0, 0), (2147483652, 2147483668, 1, 0), (2147483648, 2147485248, 2, 0)]
noncomputable def f_a52 : ev_H := (an591 : e2_Q8)
noncomputable def q_a52_0 : ev_H := (an591 : e2_Q8)
noncomputable def rs_a52 : e2_Rs := [((11, 2147483648, 2147483649), q_a52_0)]
noncomputable def s_a52 : e2_Sm := (62, as_a52, E_a52, f_a52, rs_a52)
noncomputable def S_a52 : List e2_Sm := [s_a37, s_a38, s_a51]
noncomputable def I_a52 : List e2_In := [(18, 2, e2x_18), (19, 2, e2x_19), (20, 2, e2x_20), (43, 2, e2x_43), (44, 3, e2x_44)]
set_option maxRecDepth 1000000 in
theorem ck_a52 : e2_run (e2_cal S_a52 I_a52 4000 2) (e2_fin rs_a52) e2x_62 (fun _ => false) (fun _ _ _ _ _ => false) 4000 (e2_seek e2x_62 0) (e2_al 7 as_a52) [] E_a52 f_a52 = true := by decide +kernel
set_option maxRecDepth 1000000 in
theorem co_a52 : e2_okSB E_a52.length as_a52 f_a52 rs_a52 = true := by decide +kernel
theorem cs_a52 (hen : en_ok) (l : Launch) (hh : e2_hand_a l) : e2_smOk l 84 s_a52 := e2_con0 (H := 81) (n := 2) (C := evd_62) (S := S_a52) (I := I_a52) (fuel := 4000) [] hen ei_62 (e2_fa ((cs_a37 hen l hh).mono (by decide)) (e2_fa ((cs_a38 hen l hh).mono (by decide)) (e2_fa (cs_a51 hen l hh) e2_fz))) (e2_fa ein_18 (e2_fa ein_19 (e2_fa ein_20 (e2_fa ein_43 (e2_fa ein_44 e2_fz))))) (by decide) co_a52 ex2_62 ck_a52
/-! a53 X3_parseLevel -/
def as_a53 : List ev_V := [(2, 33, 0), (2, 30, 0), (0, 5, 0), (0, 6, 0)]
def E_a53 : e2_E := [(2147483648, 2147583648, 0, 0), (2147483652, 2147483668, 1, 0), (2147483648, 2147485248, 2, 0)]
noncomputable def f_a53 : ev_H := (an591 : e2_Q8)
noncomputable def q_a53_0 : ev_H := (an591 : e2_Q8)
noncomputable def rs_a53 : e2_Rs := [((11, 2147483648, 2147483649), q_a53_0)]
noncomputable def s_a53 : e2_Sm := (59, as_a53, E_a53, f_a53, rs_a53)
noncomputable def S_a53 : List e2_Sm := [s_a52]
noncomputable def I_a53 : List e2_In := []
set_option maxRecDepth 1000000 in
theorem ck_a53 : e2_run (e2_cal S_a53 I_a53 4000 0) (e2_fin rs_a53) e2x_59 (fun _ => false) (fun _ _ _ _ _ => false) 4000 (e2_seek e2x_59 0) (e2_al 7 as_a53) [] E_a53 f_a53 = true := by decide +kernel
set_option maxRecDepth 1000000 in
theorem co_a53 : e2_okSB E_a53.length as_a53 f_a53 rs_a53 = true := by decide +kernel
theorem cs_a53 (hen : en_ok) (l : Launch) (hh : e2_hand_a l) : e2_smOk l 85 s_a53 := e2_con0 (H := 84) (n := 0) (C := evd_59) (S := S_a53) (I := I_a53) (fuel := 4000) [] hen ei_59 (e2_fa (cs_a52 hen l hh) e2_fz) e2_fz (by decide) co_a53 ex2_59 ck_a53
/-! a54 X3_parseLevel -/
def as_a54 : List ev_V := [(2, 33, 0), (2, 30, 0), (0, 4, 0), (0, 6, 0)]
def E_a54 : e2_E := [(2147483648, 2147583648, 0, 0), (2147483652, 2147483668, 1, 0), (2147483648, 2147485248, 2, 0)]
noncomputable def f_a54 : ev_H := (an591 : e2_Q8)
noncomputable def q_a54_0 : ev_H := (an591 : e2_Q8)
noncomputable def rs_a54 : e2_Rs := [((11, 2147483648, 2147483649), q_a54_0)]
noncomputable def s_a54 : e2_Sm := (59, as_a54, E_a54, f_a54, rs_a54)
noncomputable def S_a54 : List e2_Sm := [s_a37, s_a53]
noncomputable def I_a54 : List e2_In := [(19, 2, e2x_19), (20, 2, e2x_20), (60, 1, e2x_60)]
set_option maxRecDepth 1000000 in
theorem co_a54 : e2_okSB E_a54.length as_a54 f_a54 rs_a54 = true := by decide +kernel
def al_a54_0 : List ev_V := [(2, 33, 0), (2, 30, 0), (0, 4, 0), (0, 6, 0), (0, 30, 0), (1, 3, 4294967296), (9, 0, 0)]
def E_a54_0 : e2_E := [(2147483648, 2147583648, 0, 0), (2147483652, 2147483668, 1, 0), (2147483648, 2147485248, 2, 0), (2147483648, 2147483678, 3, 0)]
noncomputable def h_a54_0 : ev_H := (an591 : e2_Q8)
noncomputable def cl_a54_e : List (Nat × e2_S) := [(66, e2_cutL (al_a54_0.set 5 (11, 2147483648, 2147483678)) 3 (E_a54_0.take 3) h_a54_0)]
set_option maxRecDepth 1000000 in
theorem ck_a54_e : e2_run (e2_cal S_a54 I_a54 4000 2) (e2_fin rs_a54) e2x_59 (e2_bpL cl_a54_e) (e2_cutA cl_a54_e) 4000 (e2_seek e2x_59 0) (e2_al 7 as_a54) [] E_a54 f_a54 = true := by decide +kernel
noncomputable def cl_a54_0 : List (Nat × e2_S) := [(66, e2_cutL (al_a54_0.set 5 (13, 11, 2147483678)) 3 (E_a54_0.take 3) h_a54_0)]
set_option maxRecDepth 1000000 in
theorem ck_a54_0 : e2_runM (e2_cal S_a54 I_a54 4000 2) (e2_fin rs_a54) e2x_59 (e2_bpL cl_a54_0) (e2_cutA cl_a54_0) 4000 (e2_seek e2x_59 66) al_a54_0 [] E_a54_0 h_a54_0 = true := by decide +kernel
set_option maxRecDepth 1000000 in
theorem ci_a54_0 : e2_idl 3 (al_a54_0.set 5 (9, 0, 0)) = true := by decide +kernel
set_option maxRecDepth 1000000 in
theorem cj_a54_0 : e2_idh 3 8 h_a54_0 = true := by decide +kernel
theorem cs_a54 (hen : en_ok) (l : Launch) (hh : e2_hand_a l) : e2_smOk l 88 s_a54 := by
  refine e2_conG (H := 85) (n := 2) (C := evd_59) (S := S_a54) (I := I_a54) (fuel := 4000) hen ei_59 (e2_fa ((cs_a37 hen l hh).mono (by decide)) (e2_fa (cs_a53 hen l hh) e2_fz)) (e2_fa ein_19 (e2_fa ein_20 (e2_fa ein_60 e2_fz))) (by decide) co_a54 fun M d _ hC hcall p e R s m args below meth c Q D cA A ads r0 ha hl0 => ?_
  have L_0 : e2_gdM M p l e R s m args below meth c Q D cA A ads r0 66 al_a54_0 [] E_a54_0 h_a54_0 := by
    refine e2_indL (u := 3) (j := 5) (lo := 2147483648) (hi := 2147483678) (b := 3) (dd := 0) hl0 (by decide) rfl rfl (Or.inr ⟨rfl, rfl⟩) rfl ci_a54_0 cj_a54_0 ?_
    intro r_0 k_0 hk_0 hp_0 hs_0 hn_0
    have hl_0 : r_0.length ≤ 4 := hs_0.len rfl
    have ha_0 := ha.ext hp_0
    exact e2_fromM hen ha_0 hcall (e2_cutA_ok (e2_fa (fun al st E h hc => hn_0 al st E h hc) e2_fz)) (hC []) (X := e2x_59) ex2_59 66 ck_a54_0
  have EN_0 := e2_entL (u := 3) (j := 5) (lo := 2147483648) (hi := 2147483678) hl0 rfl rfl rfl ci_a54_0 cj_a54_0 L_0
  exact e2_from hen ha hcall (e2_cutA_ok (e2_fa (fun al st E h hc => EN_0 al st E h hc) e2_fz)) (hC []) (X := e2x_59) ex2_59 0 ck_a54_e
/-! a55 X3_parseLevel -/
def as_a55 : List ev_V := [(2, 33, 0), (2, 30, 0), (0, 3, 0), (0, 6, 0)]
def E_a55 : e2_E := [(2147483648, 2147583648, 0, 0), (2147483652, 2147483668, 1, 0), (2147483648, 2147485248, 2, 0)]
noncomputable def f_a55 : ev_H := (an591 : e2_Q8)
noncomputable def q_a55_0 : ev_H := (an591 : e2_Q8)
noncomputable def rs_a55 : e2_Rs := [((11, 2147483648, 2147483649), q_a55_0)]
noncomputable def s_a55 : e2_Sm := (59, as_a55, E_a55, f_a55, rs_a55)
noncomputable def S_a55 : List e2_Sm := [s_a37, s_a54]
noncomputable def I_a55 : List e2_In := [(19, 2, e2x_19), (20, 2, e2x_20), (60, 1, e2x_60)]
set_option maxRecDepth 1000000 in
theorem co_a55 : e2_okSB E_a55.length as_a55 f_a55 rs_a55 = true := by decide +kernel
def al_a55_0 : List ev_V := [(2, 33, 0), (2, 30, 0), (0, 3, 0), (0, 6, 0), (0, 30, 0), (1, 3, 4294967296), (9, 0, 0)]
def E_a55_0 : e2_E := [(2147483648, 2147583648, 0, 0), (2147483652, 2147483668, 1, 0), (2147483648, 2147485248, 2, 0), (2147483648, 2147483678, 3, 0)]
noncomputable def h_a55_0 : ev_H := (an591 : e2_Q8)
noncomputable def cl_a55_e : List (Nat × e2_S) := [(66, e2_cutL (al_a55_0.set 5 (11, 2147483648, 2147483678)) 3 (E_a55_0.take 3) h_a55_0)]
set_option maxRecDepth 1000000 in
theorem ck_a55_e : e2_run (e2_cal S_a55 I_a55 4000 2) (e2_fin rs_a55) e2x_59 (e2_bpL cl_a55_e) (e2_cutA cl_a55_e) 4000 (e2_seek e2x_59 0) (e2_al 7 as_a55) [] E_a55 f_a55 = true := by decide +kernel
noncomputable def cl_a55_0 : List (Nat × e2_S) := [(66, e2_cutL (al_a55_0.set 5 (13, 11, 2147483678)) 3 (E_a55_0.take 3) h_a55_0)]
set_option maxRecDepth 1000000 in
theorem ck_a55_0 : e2_runM (e2_cal S_a55 I_a55 4000 2) (e2_fin rs_a55) e2x_59 (e2_bpL cl_a55_0) (e2_cutA cl_a55_0) 4000 (e2_seek e2x_59 66) al_a55_0 [] E_a55_0 h_a55_0 = true := by decide +kernel
set_option maxRecDepth 1000000 in
theorem ci_a55_0 : e2_idl 3 (al_a55_0.set 5 (9, 0, 0)) = true := by decide +kernel
set_option maxRecDepth 1000000 in
theorem cj_a55_0 : e2_idh 3 8 h_a55_0 = true := by decide +kernel
theorem cs_a55 (hen : en_ok) (l : Launch) (hh : e2_hand_a l) : e2_smOk l 91 s_a55 := by
  refine e2_conG (H := 88) (n := 2) (C := evd_59) (S := S_a55) (I := I_a55) (fuel := 4000) hen ei_59 (e2_fa ((cs_a37 hen l hh).mono (by decide)) (e2_fa (cs_a54 hen l hh) e2_fz)) (e2_fa ein_19 (e2_fa ein_20 (e2_fa ein_60 e2_fz))) (by decide) co_a55 fun M d _ hC hcall p e R s m args below meth c Q D cA A ads r0 ha hl0 => ?_
  have L_0 : e2_gdM M p l e R s m args below meth c Q D cA A ads r0 66 al_a55_0 [] E_a55_0 h_a55_0 := by
    refine e2_indL (u := 3) (j := 5) (lo := 2147483648) (hi := 2147483678) (b := 3) (dd := 0) hl0 (by decide) rfl rfl (Or.inr ⟨rfl, rfl⟩) rfl ci_a55_0 cj_a55_0 ?_
    intro r_0 k_0 hk_0 hp_0 hs_0 hn_0
    have hl_0 : r_0.length ≤ 4 := hs_0.len rfl
    have ha_0 := ha.ext hp_0
    exact e2_fromM hen ha_0 hcall (e2_cutA_ok (e2_fa (fun al st E h hc => hn_0 al st E h hc) e2_fz)) (hC []) (X := e2x_59) ex2_59 66 ck_a55_0
  have EN_0 := e2_entL (u := 3) (j := 5) (lo := 2147483648) (hi := 2147483678) hl0 rfl rfl rfl ci_a55_0 cj_a55_0 L_0
  exact e2_from hen ha hcall (e2_cutA_ok (e2_fa (fun al st E h hc => EN_0 al st E h hc) e2_fz)) (hC []) (X := e2x_59) ex2_59 0 ck_a55_e
/-! a56 X3_parseNot -/
def as_a56 : List ev_V := [(2, 33, 0), (2, 30, 0), (0, 6, 0)]
def E_a56 : e2_E := [(2147483648, 2147583648, 0, 0), (2147483652, 2147483668, 1, 0), (2147483648, 2147485248, 2, 0)]
noncomputable def f_a56 : ev_H := (an591 : e2_Q8)
noncomputable def q_a56_0 : ev_H := (an591 : e2_Q8)
noncomputable def rs_a56 : e2_Rs := [((11, 2147483648, 2147483649), q_a56_0)]
noncomputable def s_a56 : e2_Sm := (61, as_a56, E_a56, f_a56, rs_a56)
noncomputable def S_a56 : List e2_Sm := [s_a37, s_a49]
noncomputable def I_a56 : List e2_In := [(19, 2, e2x_19), (20, 2, e2x_20)]
set_option maxRecDepth 1000000 in
theorem ck_a56 : e2_run (e2_cal S_a56 I_a56 4000 2) (e2_fin rs_a56) e2x_61 (fun _ => false) (fun _ _ _ _ _ => false) 4000 (e2_seek e2x_61 0) (e2_al 3 as_a56) [] E_a56 f_a56 = true := by decide +kernel
set_option maxRecDepth 1000000 in
theorem co_a56 : e2_okSB E_a56.length as_a56 f_a56 rs_a56 = true := by decide +kernel
theorem cs_a56 (hen : en_ok) (l : Launch) (hh : e2_hand_a l) : e2_smOk l 78 s_a56 := e2_con0 (H := 75) (n := 2) (C := evd_61) (S := S_a56) (I := I_a56) (fuel := 4000) [] hen ei_61 (e2_fa ((cs_a37 hen l hh).mono (by decide)) (e2_fa (cs_a49 hen l hh) e2_fz)) (e2_fa ein_19 (e2_fa ein_20 e2_fz)) (by decide) co_a56 ex2_61 ck_a56
/-! a57 X3_parseLevel -/
def as_a57 : List ev_V := [(2, 33, 0), (2, 30, 0), (0, 2, 0), (0, 6, 0)]
def E_a57 : e2_E := [(2147483648, 2147583648, 0, 0), (2147483652, 2147483668, 1, 0), (2147483648, 2147485248, 2, 0)]
noncomputable def f_a57 : ev_H := (an591 : e2_Q8)
noncomputable def q_a57_0 : ev_H := (an591 : e2_Q8)
noncomputable def rs_a57 : e2_Rs := [((11, 2147483648, 2147483649), q_a57_0)]
noncomputable def s_a57 : e2_Sm := (59, as_a57, E_a57, f_a57, rs_a57)
noncomputable def S_a57 : List e2_Sm := [s_a37, s_a55, s_a56]
noncomputable def I_a57 : List e2_In := [(19, 2, e2x_19), (20, 2, e2x_20), (60, 1, e2x_60)]
set_option maxRecDepth 1000000 in
theorem co_a57 : e2_okSB E_a57.length as_a57 f_a57 rs_a57 = true := by decide +kernel
def al_a57_0 : List ev_V := [(2, 33, 0), (2, 30, 0), (0, 2, 0), (0, 6, 0), (0, 1, 0), (1, 3, 4294967296), (9, 0, 0)]
def E_a57_0 : e2_E := [(2147483648, 2147583648, 0, 0), (2147483652, 2147483668, 1, 0), (2147483648, 2147485248, 2, 0), (2147483648, 2147483649, 3, 0)]
noncomputable def h_a57_0 : ev_H := (an591 : e2_Q8)
noncomputable def cl_a57_e : List (Nat × e2_S) := [(66, e2_cutL (al_a57_0.set 5 (11, 2147483648, 2147483649)) 3 (E_a57_0.take 3) h_a57_0)]
set_option maxRecDepth 1000000 in
theorem ck_a57_e : e2_run (e2_cal S_a57 I_a57 4000 2) (e2_fin rs_a57) e2x_59 (e2_bpL cl_a57_e) (e2_cutA cl_a57_e) 4000 (e2_seek e2x_59 0) (e2_al 7 as_a57) [] E_a57 f_a57 = true := by decide +kernel
noncomputable def cl_a57_0 : List (Nat × e2_S) := [(66, e2_cutL (al_a57_0.set 5 (13, 11, 2147483649)) 3 (E_a57_0.take 3) h_a57_0)]
set_option maxRecDepth 1000000 in
theorem ck_a57_0 : e2_runM (e2_cal S_a57 I_a57 4000 2) (e2_fin rs_a57) e2x_59 (e2_bpL cl_a57_0) (e2_cutA cl_a57_0) 4000 (e2_seek e2x_59 66) al_a57_0 [] E_a57_0 h_a57_0 = true := by decide +kernel
set_option maxRecDepth 1000000 in
theorem ci_a57_0 : e2_idl 3 (al_a57_0.set 5 (9, 0, 0)) = true := by decide +kernel
set_option maxRecDepth 1000000 in
theorem cj_a57_0 : e2_idh 3 8 h_a57_0 = true := by decide +kernel
theorem cs_a57 (hen : en_ok) (l : Launch) (hh : e2_hand_a l) : e2_smOk l 94 s_a57 := by
  refine e2_conG (H := 91) (n := 2) (C := evd_59) (S := S_a57) (I := I_a57) (fuel := 4000) hen ei_59 (e2_fa ((cs_a37 hen l hh).mono (by decide)) (e2_fa (cs_a55 hen l hh) (e2_fa ((cs_a56 hen l hh).mono (by decide)) e2_fz))) (e2_fa ein_19 (e2_fa ein_20 (e2_fa ein_60 e2_fz))) (by decide) co_a57 fun M d _ hC hcall p e R s m args below meth c Q D cA A ads r0 ha hl0 => ?_
  have L_0 : e2_gdM M p l e R s m args below meth c Q D cA A ads r0 66 al_a57_0 [] E_a57_0 h_a57_0 := by
    refine e2_indL (u := 3) (j := 5) (lo := 2147483648) (hi := 2147483649) (b := 3) (dd := 0) hl0 (by decide) rfl rfl (Or.inr ⟨rfl, rfl⟩) rfl ci_a57_0 cj_a57_0 ?_
    intro r_0 k_0 hk_0 hp_0 hs_0 hn_0
    have hl_0 : r_0.length ≤ 4 := hs_0.len rfl
    have ha_0 := ha.ext hp_0
    exact e2_fromM hen ha_0 hcall (e2_cutA_ok (e2_fa (fun al st E h hc => hn_0 al st E h hc) e2_fz)) (hC []) (X := e2x_59) ex2_59 66 ck_a57_0
  have EN_0 := e2_entL (u := 3) (j := 5) (lo := 2147483648) (hi := 2147483649) hl0 rfl rfl rfl ci_a57_0 cj_a57_0 L_0
  exact e2_from hen ha hcall (e2_cutA_ok (e2_fa (fun al st E h hc => EN_0 al st E h hc) e2_fz)) (hC []) (X := e2x_59) ex2_59 0 ck_a57_e
/-! a58 X3_parseLevel -/
def as_a58 : List ev_V := [(2, 33, 0), (2, 30, 0), (0, 1, 0), (0, 6, 0)]
def E_a58 : e2_E := [(2147483648, 2147583648, 0, 0), (2147483652, 2147483668, 1, 0), (2147483648, 2147485248, 2, 0)]
noncomputable def f_a58 : ev_H := (an591 : e2_Q8)
noncomputable def q_a58_0 : ev_H := (an591 : e2_Q8)
noncomputable def rs_a58 : e2_Rs := [((11, 2147483648, 2147483649), q_a58_0)]
noncomputable def s_a58 : e2_Sm := (59, as_a58, E_a58, f_a58, rs_a58)
noncomputable def S_a58 : List e2_Sm := [s_a37, s_a57]
noncomputable def I_a58 : List e2_In := [(19, 2, e2x_19), (20, 2, e2x_20), (60, 1, e2x_60)]
set_option maxRecDepth 1000000 in
theorem co_a58 : e2_okSB E_a58.length as_a58 f_a58 rs_a58 = true := by decide +kernel
def al_a58_0 : List ev_V := [(2, 33, 0), (2, 30, 0), (0, 1, 0), (0, 6, 0), (0, 30, 0), (1, 3, 4294967296), (9, 0, 0)]
def E_a58_0 : e2_E := [(2147483648, 2147583648, 0, 0), (2147483652, 2147483668, 1, 0), (2147483648, 2147485248, 2, 0), (2147483648, 2147483678, 3, 0)]
noncomputable def h_a58_0 : ev_H := (an591 : e2_Q8)
noncomputable def cl_a58_e : List (Nat × e2_S) := [(66, e2_cutL (al_a58_0.set 5 (11, 2147483648, 2147483678)) 3 (E_a58_0.take 3) h_a58_0)]
set_option maxRecDepth 1000000 in
theorem ck_a58_e : e2_run (e2_cal S_a58 I_a58 4000 2) (e2_fin rs_a58) e2x_59 (e2_bpL cl_a58_e) (e2_cutA cl_a58_e) 4000 (e2_seek e2x_59 0) (e2_al 7 as_a58) [] E_a58 f_a58 = true := by decide +kernel
noncomputable def cl_a58_0 : List (Nat × e2_S) := [(66, e2_cutL (al_a58_0.set 5 (13, 11, 2147483678)) 3 (E_a58_0.take 3) h_a58_0)]
set_option maxRecDepth 1000000 in
theorem ck_a58_0 : e2_runM (e2_cal S_a58 I_a58 4000 2) (e2_fin rs_a58) e2x_59 (e2_bpL cl_a58_0) (e2_cutA cl_a58_0) 4000 (e2_seek e2x_59 66) al_a58_0 [] E_a58_0 h_a58_0 = true := by decide +kernel
set_option maxRecDepth 1000000 in
theorem ci_a58_0 : e2_idl 3 (al_a58_0.set 5 (9, 0, 0)) = true := by decide +kernel
set_option maxRecDepth 1000000 in
theorem cj_a58_0 : e2_idh 3 8 h_a58_0 = true := by decide +kernel
theorem cs_a58 (hen : en_ok) (l : Launch) (hh : e2_hand_a l) : e2_smOk l 97 s_a58 := by
  refine e2_conG (H := 94) (n := 2) (C := evd_59) (S := S_a58) (I := I_a58) (fuel := 4000) hen ei_59 (e2_fa ((cs_a37 hen l hh).mono (by decide)) (e2_fa (cs_a57 hen l hh) e2_fz)) (e2_fa ein_19 (e2_fa ein_20 (e2_fa ein_60 e2_fz))) (by decide) co_a58 fun M d _ hC hcall p e R s m args below meth c Q D cA A ads r0 ha hl0 => ?_
  have L_0 : e2_gdM M p l e R s m args below meth c Q D cA A ads r0 66 al_a58_0 [] E_a58_0 h_a58_0 := by
    refine e2_indL (u := 3) (j := 5) (lo := 2147483648) (hi := 2147483678) (b := 3) (dd := 0) hl0 (by decide) rfl rfl (Or.inr ⟨rfl, rfl⟩) rfl ci_a58_0 cj_a58_0 ?_
    intro r_0 k_0 hk_0 hp_0 hs_0 hn_0
    have hl_0 : r_0.length ≤ 4 := hs_0.len rfl
    have ha_0 := ha.ext hp_0
    exact e2_fromM hen ha_0 hcall (e2_cutA_ok (e2_fa (fun al st E h hc => hn_0 al st E h hc) e2_fz)) (hC []) (X := e2x_59) ex2_59 66 ck_a58_0
  have EN_0 := e2_entL (u := 3) (j := 5) (lo := 2147483648) (hi := 2147483678) hl0 rfl rfl rfl ci_a58_0 cj_a58_0 L_0
  exact e2_from hen ha hcall (e2_cutA_ok (e2_fa (fun al st E h hc => EN_0 al st E h hc) e2_fz)) (hC []) (X := e2x_59) ex2_59 0 ck_a58_e
/-! a59 X3_parseLevel -/
def as_a59 : List ev_V := [(2, 33, 0), (2, 30, 0), (0, 0, 0), (0, 6, 0)]
def E_a59 : e2_E := [(2147483648, 2147583648, 0, 0), (2147483652, 2147483668, 1, 0), (2147483648, 2147485248, 2, 0)]
noncomputable def f_a59 : ev_H := (an591 : e2_Q8)
noncomputable def q_a59_0 : ev_H := (an591 : e2_Q8)
noncomputable def rs_a59 : e2_Rs := [((11, 2147483648, 2147483649), q_a59_0)]
noncomputable def s_a59 : e2_Sm := (59, as_a59, E_a59, f_a59, rs_a59)
noncomputable def S_a59 : List e2_Sm := [s_a37, s_a58]
noncomputable def I_a59 : List e2_In := [(19, 2, e2x_19), (20, 2, e2x_20), (60, 1, e2x_60)]
set_option maxRecDepth 1000000 in
theorem co_a59 : e2_okSB E_a59.length as_a59 f_a59 rs_a59 = true := by decide +kernel
def al_a59_0 : List ev_V := [(2, 33, 0), (2, 30, 0), (0, 0, 0), (0, 6, 0), (0, 30, 0), (1, 3, 4294967296), (9, 0, 0)]
def E_a59_0 : e2_E := [(2147483648, 2147583648, 0, 0), (2147483652, 2147483668, 1, 0), (2147483648, 2147485248, 2, 0), (2147483648, 2147483678, 3, 0)]
noncomputable def h_a59_0 : ev_H := (an591 : e2_Q8)
noncomputable def cl_a59_e : List (Nat × e2_S) := [(66, e2_cutL (al_a59_0.set 5 (11, 2147483648, 2147483678)) 3 (E_a59_0.take 3) h_a59_0)]
set_option maxRecDepth 1000000 in
theorem ck_a59_e : e2_run (e2_cal S_a59 I_a59 4000 2) (e2_fin rs_a59) e2x_59 (e2_bpL cl_a59_e) (e2_cutA cl_a59_e) 4000 (e2_seek e2x_59 0) (e2_al 7 as_a59) [] E_a59 f_a59 = true := by decide +kernel
noncomputable def cl_a59_0 : List (Nat × e2_S) := [(66, e2_cutL (al_a59_0.set 5 (13, 11, 2147483678)) 3 (E_a59_0.take 3) h_a59_0)]
set_option maxRecDepth 1000000 in
theorem ck_a59_0 : e2_runM (e2_cal S_a59 I_a59 4000 2) (e2_fin rs_a59) e2x_59 (e2_bpL cl_a59_0) (e2_cutA cl_a59_0) 4000 (e2_seek e2x_59 66) al_a59_0 [] E_a59_0 h_a59_0 = true := by decide +kernel
set_option maxRecDepth 1000000 in
theorem ci_a59_0 : e2_idl 3 (al_a59_0.set 5 (9, 0, 0)) = true := by decide +kernel
set_option maxRecDepth 1000000 in
theorem cj_a59_0 : e2_idh 3 8 h_a59_0 = true := by decide +kernel
theorem cs_a59 (hen : en_ok) (l : Launch) (hh : e2_hand_a l) : e2_smOk l 100 s_a59 := by
  refine e2_conG (H := 97) (n := 2) (C := evd_59) (S := S_a59) (I := I_a59) (fuel := 4000) hen ei_59 (e2_fa ((cs_a37 hen l hh).mono (by decide)) (e2_fa (cs_a58 hen l hh) e2_fz)) (e2_fa ein_19 (e2_fa ein_20 (e2_fa ein_60 e2_fz))) (by decide) co_a59 fun M d _ hC hcall p e R s m args below meth c Q D cA A ads r0 ha hl0 => ?_
  have L_0 : e2_gdM M p l e R s m args below meth c Q D cA A ads r0 66 al_a59_0 [] E_a59_0 h_a59_0 := by
    refine e2_indL (u := 3) (j := 5) (lo := 2147483648) (hi := 2147483678) (b := 3) (dd := 0) hl0 (by decide) rfl rfl (Or.inr ⟨rfl, rfl⟩) rfl ci_a59_0 cj_a59_0 ?_
    intro r_0 k_0 hk_0 hp_0 hs_0 hn_0
    have hl_0 : r_0.length ≤ 4 := hs_0.len rfl
    have ha_0 := ha.ext hp_0
    exact e2_fromM hen ha_0 hcall (e2_cutA_ok (e2_fa (fun al st E h hc => hn_0 al st E h hc) e2_fz)) (hC []) (X := e2x_59) ex2_59 66 ck_a59_0
  have EN_0 := e2_entL (u := 3) (j := 5) (lo := 2147483648) (hi := 2147483678) hl0 rfl rfl rfl ci_a59_0 cj_a59_0 L_0
  exact e2_from hen ha hcall (e2_cutA_ok (e2_fa (fun al st E h hc => EN_0 al st E h hc) e2_fz)) (hC []) (X := e2x_59) ex2_59 0 ck_a59_e
/-! a60 X3_parseUnit -/
def as_a60 : List ev_V := [(2, 33, 0), (2, 30, 0), (0, 5, 0)]
def E_a60 : e2_E := [(2147483648, 2147583648, 0, 0), (2147483652, 2147483668, 1, 0), (2147483648, 2147485248, 2, 0)]
noncomputable def f_a60 : ev_H := (an591 : e2_Q8)
noncomputable def q_a60_0 : ev_H := (an591 : e2_Q8)
noncomputable def rs_a60 : e2_Rs := [((11, 2147483648, 2147483649), q_a60_0)]
noncomputable def s_a60 : e2_Sm := (62, as_a60, E_a60, f_a60, rs_a60)
noncomputable def S_a60 : List e2_Sm := [s_a37, s_a38, s_a59]
noncomputable def I_a60 : List e2_In := [(18, 2, e2x_18), (19, 2, e2x_19), (20, 2, e2x_20), (43, 2, e2x_43), (44, 3, e2x_44)]
set_option maxRecDepth 1000000 in
theorem ck_a60 : e2_run (e2_cal S_a60 I_a60 4000 2) (e2_fin rs_a60) e2x_62 (fun _ => false) (fun _ _ _ _ _ => false) 4000 (e2_seek e2x_62 0) (e2_al 7 as_a60) [] E_a60 f_a60 = true := by decide +kernel
set_option maxRecDepth 1000000 in
theorem co_a60 : e2_okSB E_a60.length as_a60 f_a60 rs_a60 = true := by decide +kernel
theorem cs_a60 (hen : en_ok) (l : Launch) (hh : e2_hand_a l) : e2_smOk l 103 s_a60 := e2_con0 (H := 100) (n := 2) (C := evd_62) (S := S_a60) (I := I_a60) (fuel := 4000) [] hen ei_62 (e2_fa ((cs_a37 hen l hh).mono (by decide)) (e2_fa ((cs_a38 hen l hh).mono (by decide)) (e2_fa (cs_a59 hen l hh) e2_fz))) (e2_fa ein_18 (e2_fa ein_19 (e2_fa ein_20 (e2_fa ein_43 (e2_fa ein_44 e2_fz))))) (by decide) co_a60 ex2_62 ck_a60
/-! a61 X3_parseLevel -/
def as_a61 : List ev_V := [(2, 33, 0), (2, 30, 0), (0, 5, 0), (0, 5, 0)]
def E_a61 : e2_E := [(2147483648, 2147583648, 0, 0), (2147483652, 2147483668, 1, 0), (2147483648, 2147485248, 2, 0)]
noncomputable def f_a61 : ev_H := (an591 : e2_Q8)
noncomputable def q_a61_0 : ev_H := (an591 : e2_Q8)
noncomputable def rs_a61 : e2_Rs := [((11, 2147483648, 2147483649), q_a61_0)]
noncomputable def s_a61 : e2_Sm := (59, as_a61, E_a61, f_a61, rs_a61)
noncomputable def S_a61 : List e2_Sm := [s_a60]
noncomputable def I_a61 : List e2_In := []
set_option maxRecDepth 1000000 in
theorem ck_a61 : e2_run (e2_cal S_a61 I_a61 4000 0) (e2_fin rs_a61) e2x_59 (fun _ => false) (fun _ _ _ _ _ => false) 4000 (e2_seek e2x_59 0) (e2_al 7 as_a61) [] E_a61 f_a61 = true := by decide +kernel
set_option maxRecDepth 1000000 in
theorem co_a61 : e2_okSB E_a61.length as_a61 f_a61 rs_a61 = true := by decide +kernel
theorem cs_a61 (hen : en_ok) (l : Launch) (hh : e2_hand_a l) : e2_smOk l 104 s_a61 := e2_con0 (H := 103) (n := 0) (C := evd_59) (S := S_a61) (I := I_a61) (fuel := 4000) [] hen ei_59 (e2_fa (cs_a60 hen l hh) e2_fz) e2_fz (by decide) co_a61 ex2_59 ck_a61
/-! a62 X3_parseLevel -/
def as_a62 : List ev_V := [(2, 33, 0), (2, 30, 0), (0, 4, 0), (0, 5, 0)]
def E_a62 : e2_E := [(2147483648, 2147583648, 0, 0), (2147483652, 2147483668, 1, 0), (2147483648, 2147485248, 2, 0)]
noncomputable def f_a62 : ev_H := (an591 : e2_Q8)
noncomputable def q_a62_0 : ev_H := (an591 : e2_Q8)
noncomputable def rs_a62 : e2_Rs := [((11, 2147483648, 2147483649), q_a62_0)]
noncomputable def s_a62 : e2_Sm := (59, as_a62, E_a62, f_a62, rs_a62)
noncomputable def S_a62 : List e2_Sm := [s_a37, s_a61]
noncomputable def I_a62 : List e2_In := [(19, 2, e2x_19), (20, 2, e2x_20), (60, 1, e2x_60)]
set_option maxRecDepth 1000000 in
theorem co_a62 : e2_okSB E_a62.length as_a62 f_a62 rs_a62 = true := by decide +kernel
def al_a62_0 : List ev_V := [(2, 33, 0), (2, 30, 0), (0, 4, 0), (0, 5, 0), (0, 30, 0), (1, 3, 4294967296), (9, 0, 0)]
def E_a62_0 : e2_E := [(2147483648, 2147583648, 0, 0), (2147483652, 2147483668, 1, 0), (2147483648, 2147485248, 2, 0), (2147483648, 2147483678, 3, 0)]
noncomputable def h_a62_0 : ev_H := (an591 : e2_Q8)
noncomputable def cl_a62_e : List (Nat × e2_S) := [(66, e2_cutL (al_a62_0.set 5 (11, 2147483648, 2147483678)) 3 (E_a62_0.take 3) h_a62_0)]
set_option maxRecDepth 1000000 in
theorem ck_a62_e : e2_run (e2_cal S_a62 I_a62 4000 2) (e2_fin rs_a62) e2x_59 (e2_bpL cl_a62_e) (e2_cutA cl_a62_e) 4000 (e2_seek e2x_59 0) (e2_al 7 as_a62) [] E_a62 f_a62 = true := by decide +kernel
noncomputable def cl_a62_0 : List (Nat × e2_S) := [(66, e2_cutL (al_a62_0.set 5 (13, 11, 2147483678)) 3 (E_a62_0.take 3) h_a62_0)]
set_option maxRecDepth 1000000 in
theorem ck_a62_0 : e2_runM (e2_cal S_a62 I_a62 4000 2) (e2_fin rs_a62) e2x_59 (e2_bpL cl_a62_0) (e2_cutA cl_a62_0) 4000 (e2_seek e2x_59 66) al_a62_0 [] E_a62_0 h_a62_0 = true := by decide +kernel
set_option maxRecDepth 1000000 in
theorem ci_a62_0 : e2_idl 3 (al_a62_0.set 5 (9, 0, 0)) = true := by decide +kernel
set_option maxRecDepth 1000000 in
theorem cj_a62_0 : e2_idh 3 8 h_a62_0 = true := by decide +kernel
theorem cs_a62 (hen : en_ok) (l : Launch) (hh : e2_hand_a l) : e2_smOk l 107 s_a62 := by
  refine e2_conG (H := 104) (n := 2) (C := evd_59) (S := S_a62) (I := I_a62) (fuel := 4000) hen ei_59 (e2_fa ((cs_a37 hen l hh).mono (by decide)) (e2_fa (cs_a61 hen l hh) e2_fz)) (e2_fa ein_19 (e2_fa ein_20 (e2_fa ein_60 e2_fz))) (by decide) co_a62 fun M d _ hC hcall p e R s m args below meth c Q D cA A ads r0 ha hl0 => ?_
  have L_0 : e2_gdM M p l e R s m args below meth c Q D cA A ads r0 66 al_a62_0 [] E_a62_0 h_a62_0 := by
    refine e2_indL (u := 3) (j := 5) (lo := 2147483648) (hi := 2147483678) (b := 3) (dd := 0) hl0 (by decide) rfl rfl (Or.inr ⟨rfl, rfl⟩) rfl ci_a62_0 cj_a62_0 ?_
    intro r_0 k_0 hk_0 hp_0 hs_0 hn_0
    have hl_0 : r_0.length ≤ 4 := hs_0.len rfl
    have ha_0 := ha.ext hp_0
    exact e2_fromM hen ha_0 hcall (e2_cutA_ok (e2_fa (fun al st E h hc => hn_0 al st E h hc) e2_fz)) (hC []) (X := e2x_59) ex2_59 66 ck_a62_0
  have EN_0 := e2_entL (u := 3) (j := 5) (lo := 2147483648) (hi := 2147483678) hl0 rfl rfl rfl ci_a62_0 cj_a62_0 L_0
  exact e2_from hen ha hcall (e2_cutA_ok (e2_fa (fun al st E h hc => EN_0 al st E h hc) e2_fz)) (hC []) (X := e2x_59) ex2_59 0 ck_a62_e
/-! a63 X3_parseLevel -/
def as_a63 : List ev_V := [(2, 33, 0), (2, 30, 0), (0, 3, 0), (0, 5, 0)]
def E_a63 : e2_E := [(2147483648, 2147583648, 0, 0), (2147483652, 2147483668, 1, 0), (2147483648, 2147485248, 2, 0)]
noncomputable def f_a63 : ev_H := (an591 : e2_Q8)
noncomputable def q_a63_0 : ev_H := (an591 : e2_Q8)
noncomputable def rs_a63 : e2_Rs := [((11, 2147483648, 2147483649), q_a63_0)]
noncomputable def s_a63 : e2_Sm := (59, as_a63, E_a63, f_a63, rs_a63)
noncomputable def S_a63 : List e2_Sm := [s_a37, s_a62]
noncomputable def I_a63 : List e2_In := [(19, 2, e2x_19), (20, 2, e2x_20), (60, 1, e2x_60)]
set_option maxRecDepth 1000000 in
theorem co_a63 : e2_okSB E_a63.length as_a63 f_a63 rs_a63 = true := by decide +kernel
def al_a63_0 : List ev_V := [(2, 33, 0), (2, 30, 0), (0, 3, 0), (0, 5, 0), (0, 30, 0), (1, 3, 4294967296), (9, 0, 0)]
def E_a63_0 : e2_E := [(2147483648, 2147583648, 0, 0), (2147483652, 2147483668, 1, 0), (2147483648, 2147485248, 2, 0), (2147483648, 2147483678, 3, 0)]
noncomputable def h_a63_0 : ev_H := (an591 : e2_Q8)
noncomputable def cl_a63_e : List (Nat × e2_S) := [(66, e2_cutL (al_a63_0.set 5 (11, 2147483648, 2147483678)) 3 (E_a63_0.take 3) h_a63_0)]
set_option maxRecDepth 1000000 in
theorem ck_a63_e : e2_run (e2_cal S_a63 I_a63 4000 2) (e2_fin rs_a63) e2x_59 (e2_bpL cl_a63_e) (e2_cutA cl_a63_e) 4000 (e2_seek e2x_59 0) (e2_al 7 as_a63) [] E_a63 f_a63 = true := by decide +kernel
noncomputable def cl_a63_0 : List (Nat × e2_S) := [(66, e2_cutL (al_a63_0.set 5 (13, 11, 2147483678)) 3 (E_a63_0.take 3) h_a63_0)]
set_option maxRecDepth 1000000 in
theorem ck_a63_0 : e2_runM (e2_cal S_a63 I_a63 4000 2) (e2_fin rs_a63) e2x_59 (e2_bpL cl_a63_0) (e2_cutA cl_a63_0) 4000 (e2_seek e2x_59 66) al_a63_0 [] E_a63_0 h_a63_0 = true := by decide +kernel
set_option maxRecDepth 1000000 in
theorem ci_a63_0 : e2_idl 3 (al_a63_0.set 5 (9, 0, 0)) = true := by decide +kernel
set_option maxRecDepth 1000000 in
theorem cj_a63_0 : e2_idh 3 8 h_a63_0 = true := by decide +kernel
theorem cs_a63 (hen : en_ok) (l : Launch) (hh : e2_hand_a l) : e2_smOk l 110 s_a63 := by
  refine e2_conG (H := 107) (n := 2) (C := evd_59) (S := S_a63) (I := I_a63) (fuel := 4000) hen ei_59 (e2_fa ((cs_a37 hen l hh).mono (by decide)) (e2_fa (cs_a62 hen l hh) e2_fz)) (e2_fa ein_19 (e2_fa ein_20 (e2_fa ein_60 e2_fz))) (by decide) co_a63 fun M d _ hC hcall p e R s m args below meth c Q D cA A ads r0 ha hl0 => ?_
  have L_0 : e2_gdM M p l e R s m args below meth c Q D cA A ads r0 66 al_a63_0 [] E_a63_0 h_a63_0 := by
    refine e2_indL (u := 3) (j := 5) (lo := 2147483648) (hi := 2147483678) (b := 3) (dd := 0) hl0 (by decide) rfl rfl (Or.inr ⟨rfl, rfl⟩) rfl ci_a63_0 cj_a63_0 ?_
    intro r_0 k_0 hk_0 hp_0 hs_0 hn_0
    have hl_0 : r_0.length ≤ 4 := hs_0.len rfl
    have ha_0 := ha.ext hp_0
    exact e2_fromM hen ha_0 hcall (e2_cutA_ok (e2_fa (fun al st E h hc => hn_0 al st E h hc) e2_fz)) (hC []) (X := e2x_59) ex2_59 66 ck_a63_0
  have EN_0 := e2_entL (u := 3) (j := 5) (lo := 2147483648) (hi := 2147483678) hl0 rfl rfl rfl ci_a63_0 cj_a63_0 L_0
  exact e2_from hen ha hcall (e2_cutA_ok (e2_fa (fun al st E h hc => EN_0 al st E h hc) e2_fz)) (hC []) (X := e2x_59) ex2_59 0 ck_a63_e
/-! a64 X3_parseNot -/
def as_a64 : List ev_V := [(2, 33, 0), (2, 30, 0), (0, 5, 0)]
def E_a64 : e2_E := [(2147483648, 2147583648, 0, 0), (2147483652, 2147483668, 1, 0), (2147483648, 2147485248, 2, 0)]
noncomputable def f_a64 : ev_H := (an591 : e2_Q8)
noncomputable def q_a64_0 : ev_H := (an591 : e2_Q8)
noncomputable def rs_a64 : e2_Rs := [((11, 2147483648, 2147483649), q_a64_0)]
noncomputable def s_a64 : e2_Sm := (61, as_a64, E_a64, f_a64, rs_a64)
noncomputable def S_a64 : List e2_Sm := [s_a37, s_a57]
noncomputable def I_a64 : List e2_In := [(19, 2, e2x_19), (20, 2, e2x_20)]
set_option maxRecDepth 1000000 in
theorem ck_a64 : e2_run (e2_cal S_a64 I_a64 4000 2) (e2_fin rs_a64) e2x_61 (fun _ => false) (fun _ _ _ _ _ => false) 4000 (e2_seek e2x_61 0) (e2_al 3 as_a64) [] E_a64 f_a64 = true := by decide +kernel
set_option maxRecDepth 1000000 in
theorem co_a64 : e2_okSB E_a64.length as_a64 f_a64 rs_a64 = true := by decide +kernel
theorem cs_a64 (hen : en_ok) (l : Launch) (hh : e2_hand_a l) : e2_smOk l 97 s_a64 := e2_con0 (H := 94) (n := 2) (C := evd_61) (S := S_a64) (I := I_a64) (fuel := 4000) [] hen ei_61 (e2_fa ((cs_a37 hen l hh).mono (by decide)) (e2_fa (cs_a57 hen l hh) e2_fz)) (e2_fa ein_19 (e2_fa ein_20 e2_fz)) (by decide) co_a64 ex2_61 ck_a64
/-! a65 X3_parseLevel -/
def as_a65 : List ev_V := [(2, 33, 0), (2, 30, 0), (0, 2, 0), (0, 5, 0)]
def E_a65 : e2_E := [(2147483648, 2147583648, 0, 0), (2147483652, 2147483668, 1, 0), (2147483648, 2147485248, 2, 0)]
noncomputable def f_a65 : ev_H := (an591 : e2_Q8)
noncomputable def q_a65_0 : ev_H := (an591 : e2_Q8)
noncomputable def rs_a65 : e2_Rs := [((11, 2147483648, 2147483649), q_a65_0)]
noncomputable def s_a65 : e2_Sm := (59, as_a65, E_a65, f_a65, rs_a65)
noncomputable def S_a65 : List e2_Sm := [s_a37, s_a63, s_a64]
noncomputable def I_a65 : List e2_In := [(19, 2, e2x_19), (20, 2, e2x_20), (60, 1, e2x_60)]
set_option maxRecDepth 1000000 in
theorem co_a65 : e2_okSB E_a65.length as_a65 f_a65 rs_a65 = true := by decide +kernel
def al_a65_0 : List ev_V := [(2, 33, 0), (2, 30, 0), (0, 2, 0), (0, 5, 0), (0, 1, 0), (1, 3, 4294967296), (9, 0, 0)]
def E_a65_0 : e2_E := [(2147483648, 2147583648, 0, 0), (2147483652, 2147483668, 1, 0), (2147483648, 2147485248, 2, 0), (2147483648, 2147483649, 3, 0)]
noncomputable def h_a65_0 : ev_H := (an591 : e2_Q8)
noncomputable def cl_a65_e : List (Nat × e2_S) := [(66, e2_cutL (al_a65_0.set 5 (11, 2147483648, 2147483649)) 3 (E_a65_0.take 3) h_a65_0)]
set_option maxRecDepth 1000000 in
theorem ck_a65_e : e2_run (e2_cal S_a65 I_a65 4000 2) (e2_fin rs_a65) e2x_59 (e2_bpL cl_a65_e) (e2_cutA cl_a65_e) 4000 (e2_seek e2x_59 0) (e2_al 7 as_a65) [] E_a65 f_a65 = true := by decide +kernel
noncomputable def cl_a65_0 : List (Nat × e2_S) := [(66, e2_cutL (al_a65_0.set 5 (13, 11, 2147483649)) 3 (E_a65_0.take 3) h_a65_0)]
set_option maxRecDepth 1000000 in
theorem ck_a65_0 : e2_runM (e2_cal S_a65 I_a65 4000 2) (e2_fin rs_a65) e2x_59 (e2_bpL cl_a65_0) (e2_cutA cl_a65_0) 4000 (e2_seek e2x_59 66) al_a65_0 [] E_a65_0 h_a65_0 = true := by decide +kernel
set_option maxRecDepth 1000000 in
theorem ci_a65_0 : e2_idl 3 (al_a65_0.set 5 (9, 0, 0)) = true := by decide +kernel
set_option maxRecDepth 1000000 in
theorem cj_a65_0 : e2_idh 3 8 h_a65_0 = true := by decide +kernel
theorem cs_a65 (hen : en_ok) (l : Launch) (hh : e2_hand_a l) : e2_smOk l 113 s_a65 := by
  refine e2_conG (H := 110) (n := 2) (C := evd_59) (S := S_a65) (I := I_a65) (fuel := 4000) hen ei_59 (e2_fa ((cs_a37 hen l hh).mono (by decide)) (e2_fa (cs_a63 hen l hh) (e2_fa ((cs_a64 hen l hh).mono (by decide)) e2_fz))) (e2_fa ein_19 (e2_fa ein_20 (e2_fa ein_60 e2_fz))) (by decide) co_a65 fun M d _ hC hcall p e R s m args below meth c Q D cA A ads r0 ha hl0 => ?_
  have L_0 : e2_gdM M p l e R s m args below meth c Q D cA A ads r0 66 al_a65_0 [] E_a65_0 h_a65_0 := by
    refine e2_indL (u := 3) (j := 5) (lo := 2147483648) (hi := 2147483649) (b := 3) (dd := 0) hl0 (by decide) rfl rfl (Or.inr ⟨rfl, rfl⟩) rfl ci_a65_0 cj_a65_0 ?_
    intro r_0 k_0 hk_0 hp_0 hs_0 hn_0
    have hl_0 : r_0.length ≤ 4 := hs_0.len rfl
    have ha_0 := ha.ext hp_0
    exact e2_fromM hen ha_0 hcall (e2_cutA_ok (e2_fa (fun al st E h hc => hn_0 al st E h hc) e2_fz)) (hC []) (X := e2x_59) ex2_59 66 ck_a65_0
  have EN_0 := e2_entL (u := 3) (j := 5) (lo := 2147483648) (hi := 2147483649) hl0 rfl rfl rfl ci_a65_0 cj_a65_0 L_0
  exact e2_from hen ha hcall (e2_cutA_ok (e2_fa (fun al st E h hc => EN_0 al st E h hc) e2_fz)) (hC []) (X := e2x_59) ex2_59 0 ck_a65_e
/-! a66 X3_parseLevel -/
def as_a66 : List ev_V := [(2, 33, 0), (2, 30, 0), (0, 1, 0), (0, 5, 0)]
def E_a66 : e2_E := [(2147483648, 2147583648, 0, 0), (2147483652, 2147483668, 1, 0), (2147483648, 2147485248, 2, 0)]
noncomputable def f_a66 : ev_H := (an591 : e2_Q8)
noncomputable def q_a66_0 : ev_H := (an591 : e2_Q8)
noncomputable def rs_a66 : e2_Rs := [((11, 2147483648, 2147483649), q_a66_0)]
noncomputable def s_a66 : e2_Sm := (59, as_a66, E_a66, f_a66, rs_a66)
noncomputable def S_a66 : List e2_Sm := [s_a37, s_a65]
noncomputable def I_a66 : List e2_In := [(19, 2, e2x_19), (20, 2, e2x_20), (60, 1, e2x_60)]
set_option maxRecDepth 1000000 in
theorem co_a66 : e2_okSB E_a66.length as_a66 f_a66 rs_a66 = true := by decide +kernel
def al_a66_0 : List ev_V := [(2, 33, 0), (2, 30, 0), (0, 1, 0), (0, 5, 0), (0, 30, 0), (1, 3, 4294967296), (9, 0, 0)]
def E_a66_0 : e2_E := [(2147483648, 2147583648, 0, 0), (2147483652, 2147483668, 1, 0), (2147483648, 2147485248, 2, 0), (2147483648, 2147483678, 3, 0)]
noncomputable def h_a66_0 : ev_H := (an591 : e2_Q8)
noncomputable def cl_a66_e : List (Nat × e2_S) := [(66, e2_cutL (al_a66_0.set 5 (11, 2147483648, 2147483678)) 3 (E_a66_0.take 3) h_a66_0)]
set_option maxRecDepth 1000000 in
theorem ck_a66_e : e2_run (e2_cal S_a66 I_a66 4000 2) (e2_fin rs_a66) e2x_59 (e2_bpL cl_a66_e) (e2_cutA cl_a66_e) 4000 (e2_seek e2x_59 0) (e2_al 7 as_a66) [] E_a66 f_a66 = true := by decide +kernel
noncomputable def cl_a66_0 : List (Nat × e2_S) := [(66, e2_cutL (al_a66_0.set 5 (13, 11, 2147483678)) 3 (E_a66_0.take 3) h_a66_0)]
set_option maxRecDepth 1000000 in
theorem ck_a66_0 : e2_runM (e2_cal S_a66 I_a66 4000 2) (e2_fin rs_a66) e2x_59 (e2_bpL cl_a66_0) (e2_cutA cl_a66_0) 4000 (e2_seek e2x_59 66) al_a66_0 [] E_a66_0 h_a66_0 = true := by decide +kernel
set_option maxRecDepth 1000000 in
theorem ci_a66_0 : e2_idl 3 (al_a66_0.set 5 (9, 0, 0)) = true := by decide +kernel
set_option maxRecDepth 1000000 in
theorem cj_a66_0 : e2_idh 3 8 h_a66_0 = true := by decide +kernel
theorem cs_a66 (hen : en_ok) (l : Launch) (hh : e2_hand_a l) : e2_smOk l 116 s_a66 := by
  refine e2_conG (H := 113) (n := 2) (C := evd_59) (S := S_a66) (I := I_a66) (fuel := 4000) hen ei_59 (e2_fa ((cs_a37 hen l hh).mono (by decide)) (e2_fa (cs_a65 hen l hh) e2_fz)) (e2_fa ein_19 (e2_fa ein_20 (e2_fa ein_60 e2_fz))) (by decide) co_a66 fun M d _ hC hcall p e R s m args below meth c Q D cA A ads r0 ha hl0 => ?_
  have L_0 : e2_gdM M p l e R s m args below meth c Q D cA A ads r0 66 al_a66_0 [] E_a66_0 h_a66_0 := by
    refine e2_indL (u := 3) (j := 5) (lo := 2147483648) (hi := 2147483678) (b := 3) (dd := 0) hl0 (by decide) rfl rfl (Or.inr ⟨rfl, rfl⟩) rfl ci_a66_0 cj_a66_0 ?_
    intro r_0 k_0 hk_0 hp_0 hs_0 hn_0
    have hl_0 : r_0.length ≤ 4 := hs_0.len rfl
    have ha_0 := ha.ext hp_0
    exact e2_fromM hen ha_0 hcall (e2_cutA_ok (e2_fa (fun al st E h hc => hn_0 al st E h hc) e2_fz)) (hC []) (X := e2x_59) ex2_59 66 ck_a66_0
  have EN_0 := e2_entL (u := 3) (j := 5) (lo := 2147483648) (hi := 2147483678) hl0 rfl rfl rfl ci_a66_0 cj_a66_0 L_0
  exact e2_from hen ha hcall (e2_cutA_ok (e2_fa (fun al st E h hc => EN_0 al st E h hc) e2_fz)) (hC []) (X := e2x_59) ex2_59 0 ck_a66_e
/-! a67 X3_parseLevel -/
def as_a67 : List ev_V := [(2, 33, 0), (2, 30, 0), (0, 0, 0), (0, 5, 0)]
def E_a67 : e2_E := [(2147483648, 2147583648, 0, 0), (2147483652, 2147483668, 1, 0), (2147483648, 2147485248, 2, 0)]
noncomputable def f_a67 : ev_H := (an591 : e2_Q8)
noncomputable def q_a67_0 : ev_H := (an591 : e2_Q8)
noncomputable def rs_a67 : e2_Rs := [((11, 2147483648, 2147483649), q_a67_0)]
noncomputable def s_a67 : e2_Sm := (59, as_a67, E_a67, f_a67, rs_a67)
noncomputable def S_a67 : List e2_Sm := [s_a37, s_a66]
noncomputable def I_a67 : List e2_In := [(19, 2, e2x_19), (20, 2, e2x_20), (60, 1, e2x_60)]
set_option maxRecDepth 1000000 in
theorem co_a67 : e2_okSB E_a67.length as_a67 f_a67 rs_a67 = true := by decide +kernel
def al_a67_0 : List ev_V := [(2, 33, 0), (2, 30, 0), (0, 0, 0), (0, 5, 0), (0, 30, 0), (1, 3, 4294967296), (9, 0, 0)]
def E_a67_0 : e2_E := [(2147483648, 2147583648, 0, 0), (2147483652, 2147483668, 1, 0), (2147483648, 2147485248, 2, 0), (2147483648, 2147483678, 3, 0)]
noncomputable def h_a67_0 : ev_H := (an591 : e2_Q8)
noncomputable def cl_a67_e : List (Nat × e2_S) := [(66, e2_cutL (al_a67_0.set 5 (11, 2147483648, 2147483678)) 3 (E_a67_0.take 3) h_a67_0)]
set_option maxRecDepth 1000000 in
theorem ck_a67_e : e2_run (e2_cal S_a67 I_a67 4000 2) (e2_fin rs_a67) e2x_59 (e2_bpL cl_a67_e) (e2_cutA cl_a67_e) 4000 (e2_seek e2x_59 0) (e2_al 7 as_a67) [] E_a67 f_a67 = true := by decide +kernel
noncomputable def cl_a67_0 : List (Nat × e2_S) := [(66, e2_cutL (al_a67_0.set 5 (13, 11, 2147483678)) 3 (E_a67_0.take 3) h_a67_0)]
set_option maxRecDepth 1000000 in
theorem ck_a67_0 : e2_runM (e2_cal S_a67 I_a67 4000 2) (e2_fin rs_a67) e2x_59 (e2_bpL cl_a67_0) (e2_cutA cl_a67_0) 4000 (e2_seek e2x_59 66) al_a67_0 [] E_a67_0 h_a67_0 = true := by decide +kernel
set_option maxRecDepth 1000000 in
theorem ci_a67_0 : e2_idl 3 (al_a67_0.set 5 (9, 0, 0)) = true := by decide +kernel
set_option maxRecDepth 1000000 in
theorem cj_a67_0 : e2_idh 3 8 h_a67_0 = true := by decide +kernel
theorem cs_a67 (hen : en_ok) (l : Launch) (hh : e2_hand_a l) : e2_smOk l 119 s_a67 := by
  refine e2_conG (H := 116) (n := 2) (C := evd_59) (S := S_a67) (I := I_a67) (fuel := 4000) hen ei_59 (e2_fa ((cs_a37 hen l hh).mono (by decide)) (e2_fa (cs_a66 hen l hh) e2_fz)) (e2_fa ein_19 (e2_fa ein_20 (e2_fa ein_60 e2_fz))) (by decide) co_a67 fun M d _ hC hcall p e R s m args below meth c Q D cA A ads r0 ha hl0 => ?_
  have L_0 : e2_gdM M p l e R s m args below meth c Q D cA A ads r0 66 al_a67_0 [] E_a67_0 h_a67_0 := by
    refine e2_indL (u := 3) (j := 5) (lo := 2147483648) (hi := 2147483678) (b := 3) (dd := 0) hl0 (by decide) rfl rfl (Or.inr ⟨rfl, rfl⟩) rfl ci_a67_0 cj_a67_0 ?_
    intro r_0 k_0 hk_0 hp_0 hs_0 hn_0
    have hl_0 : r_0.length ≤ 4 := hs_0.len rfl
    have ha_0 := ha.ext hp_0
    exact e2_fromM hen ha_0 hcall (e2_cutA_ok (e2_fa (fun al st E h hc => hn_0 al st E h hc) e2_fz)) (hC []) (X := e2x_59) ex2_59 66 ck_a67_0
  have EN_0 := e2_entL (u := 3) (j := 5) (lo := 2147483648) (hi := 2147483678) hl0 rfl rfl rfl ci_a67_0 cj_a67_0 L_0
  exact e2_from hen ha hcall (e2_cutA_ok (e2_fa (fun al st E h hc => EN_0 al st E h hc) e2_fz)) (hC []) (X := e2x_59) ex2_59 0 ck_a67_e
/-! a68 X3_parseUnit -/
def as_a68 : List ev_V := [(2, 33, 0), (2, 30, 0), (0, 4, 0)]
def E_a68 : e2_E := [(2147483648, 2147583648, 0, 0), (2147483652, 2147483668, 1, 0), (2147483648, 2147485248, 2, 0)]
noncomputable def f_a68 : ev_H := (an591 : e2_Q8)
noncomputable def q_a68_0 : ev_H := (an591 : e2_Q8)
noncomputable def rs_a68 : e2_Rs := [((11, 2147483648, 2147483649), q_a68_0)]
noncomputable def s_a68 : e2_Sm := (62, as_a68, E_a68, f_a68, rs_a68)
noncomputable def S_a68 : List e2_Sm := [s_a37, s_a38, s_a67]
noncomputable def I_a68 : List e2_In := [(18, 2, e2x_18), (19, 2, e2x_19), (20, 2, e2x_20), (43, 2, e2x_43), (44, 3, e2x_44)]
set_option maxRecDepth 1000000 in
theorem ck_a68 : e2_run (e2_cal S_a68 I_a68 4000 2) (e2_fin rs_a68) e2x_62 (fun _ => false) (fun _ _ _ _ _ => false) 4000 (e2_seek e2x_62 0) (e2_al 7 as_a68) [] E_a68 f_a68 = true := by decide +kernel
set_option maxRecDepth 1000000 in
theorem co_a68 : e2_okSB E_a68.length as_a68 f_a68 rs_a68 = true := by decide +kernel
theorem cs_a68 (hen : en_ok) (l : Launch) (hh : e2_hand_a l) : e2_smOk l 122 s_a68 := e2_con0 (H := 119) (n := 2) (C := evd_62) (S := S_a68) (I := I_a68) (fuel := 4000) [] hen ei_62 (e2_fa ((cs_a37 hen l hh).mono (by decide)) (e2_fa ((cs_a38 hen l hh).mono (by decide)) (e2_fa (cs_a67 hen l hh) e2_fz))) (e2_fa ein_18 (e2_fa ein_19 (e2_fa ein_20 (e2_fa ein_43 (e2_fa ein_44 e2_fz))))) (by decide) co_a68 ex2_62 ck_a68
/-! a69 X3_parseLevel -/
def as_a69 : List ev_V := [(2, 33, 0), (2, 30, 0), (0, 5, 0), (0, 4, 0)]
def E_a69 : e2_E := [(2147483648, 2147583648, 0, 0), (2147483652, 2147483668, 1, 0), (2147483648, 2147485248, 2, 0)]
noncomputable def f_a69 : ev_H := (an591 : e2_Q8)
noncomputable def q_a69_0 : ev_H := (an591 : e2_Q8)
noncomputable def rs_a69 : e2_Rs := [((11, 2147483648, 2147483649), q_a69_0)]
noncomputable def s_a69 : e2_Sm := (59, as_a69, E_a69, f_a69, rs_a69)
noncomputable def S_a69 : List e2_Sm := [s_a68]
noncomputable def I_a69 : List e2_In := []
set_option maxRecDepth 1000000 in
theorem ck_a69 : e2_run (e2_cal S_a69 I_a69 4000 0) (e2_fin rs_a69) e2x_59 (fun _ => false) (fun _ _ _ _ _ => false) 4000 (e2_seek e2x_59 0) (e2_al 7 as_a69) [] E_a69 f_a69 = true := by decide +kernel
set_option maxRecDepth 1000000 in
theorem co_a69 : e2_okSB E_a69.length as_a69 f_a69 rs_a69 = true := by decide +kernel
theorem cs_a69 (hen : en_ok) (l : Launch) (hh : e2_hand_a l) : e2_smOk l 123 s_a69 := e2_con0 (H := 122) (n := 0) (C := evd_59) (S := S_a69) (I := I_a69) (fuel := 4000) [] hen ei_59 (e2_fa (cs_a68 hen l hh) e2_fz) e2_fz (by decide) co_a69 ex2_59 ck_a69
/-! a70 X3_parseLevel -/
def as_a70 : List ev_V := [(2, 33, 0), (2, 30, 0), (0, 4, 0), (0, 4, 0)]
def E_a70 : e2_E := [(2147483648, 2147583648, 0, 0), (2147483652, 2147483668, 1, 0), (2147483648, 2147485248, 2, 0)]
noncomputable def f_a70 : ev_H := (an591 : e2_Q8)
noncomputable def q_a70_0 : ev_H := (an591 : e2_Q8)
noncomputable def rs_a70 : e2_Rs := [((11, 2147483648, 2147483649), q_a70_0)]
noncomputable def s_a70 : e2_Sm := (59, as_a70, E_a70, f_a70, rs_a70)
noncomputable def S_a70 : List e2_Sm := [s_a37, s_a69]
noncomputable def I_a70 : List e2_In := [(19, 2, e2x_19), (20, 2, e2x_20), (60, 1, e2x_60)]
set_option maxRecDepth 1000000 in
theorem co_a70 : e2_okSB E_a70.length as_a70 f_a70 rs_a70 = true := by decide +kernel
def al_a70_0 : List ev_V := [(2, 33, 0), (2, 30, 0), (0, 4, 0), (0, 4, 0), (0, 30, 0), (1, 3, 4294967296), (9, 0, 0)]
def E_a70_0 : e2_E := [(2147483648, 2147583648, 0, 0), (2147483652, 2147483668, 1, 0), (2147483648, 2147485248, 2, 0), (2147483648, 2147483678, 3, 0)]
noncomputable def h_a70_0 : ev_H := (an591 : e2_Q8)
noncomputable def cl_a70_e : List (Nat × e2_S) := [(66, e2_cutL (al_a70_0.set 5 (11, 2147483648, 2147483678)) 3 (E_a70_0.take 3) h_a70_0)]
set_option maxRecDepth 1000000 in
theorem ck_a70_e : e2_run (e2_cal S_a70 I_a70 4000 2) (e2_fin rs_a70) e2x_59 (e2_bpL cl_a70_e) (e2_cutA cl_a70_e) 4000 (e2_seek e2x_59 0) (e2_al 7 as_a70) [] E_a70 f_a70 = true := by decide +kernel
noncomputable def cl_a70_0 : List (Nat × e2_S) := [(66, e2_cutL (al_a70_0.set 5 (13, 11, 2147483678)) 3 (E_a70_0.take 3) h_a70_0)]
set_option maxRecDepth 1000000 in
theorem ck_a70_0 : e2_runM (e2_cal S_a70 I_a70 4000 2) (e2_fin rs_a70) e2x_59 (e2_bpL cl_a70_0) (e2_cutA cl_a70_0) 4000 (e2_seek e2x_59 66) al_a70_0 [] E_a70_0 h_a70_0 = true := by decide +kernel
set_option maxRecDepth 1000000 in
theorem ci_a70_0 : e2_idl 3 (al_a70_0.set 5 (9, 0, 0)) = true := by decide +kernel
set_option maxRecDepth 1000000 in
theorem cj_a70_0 : e2_idh 3 8 h_a70_0 = true := by decide +kernel
theorem cs_a70 (hen : en_ok) (l : Launch) (hh : e2_hand_a l) : e2_smOk l 126 s_a70 := by
  refine e2_conG (H := 123) (n := 2) (C := evd_59) (S := S_a70) (I := I_a70) (fuel := 4000) hen ei_59 (e2_fa ((cs_a37 hen l hh).mono (by decide)) (e2_fa (cs_a69 hen l hh) e2_fz)) (e2_fa ein_19 (e2_fa ein_20 (e2_fa ein_60 e2_fz))) (by decide) co_a70 fun M d _ hC hcall p e R s m args below meth c Q D cA A ads r0 ha hl0 => ?_
  have L_0 : e2_gdM M p l e R s m args below meth c Q D cA A ads r0 66 al_a70_0 [] E_a70_0 h_a70_0 := by
    refine e2_indL (u := 3) (j := 5) (lo := 2147483648) (hi := 2147483678) (b := 3) (dd := 0) hl0 (by decide) rfl rfl (Or.inr ⟨rfl, rfl⟩) rfl ci_a70_0 cj_a70_0 ?_
    intro r_0 k_0 hk_0 hp_0 hs_0 hn_0
    have hl_0 : r_0.length ≤ 4 := hs_0.len rfl
    have ha_0 := ha.ext hp_0
    exact e2_fromM hen ha_0 hcall (e2_cutA_ok (e2_fa (fun al st E h hc => hn_0 al st E h hc) e2_fz)) (hC []) (X := e2x_59) ex2_59 66 ck_a70_0
  have EN_0 := e2_entL (u := 3) (j := 5) (lo := 2147483648) (hi := 2147483678) hl0 rfl rfl rfl ci_a70_0 cj_a70_0 L_0
  exact e2_from hen ha hcall (e2_cutA_ok (e2_fa (fun al st E h hc => EN_0 al st E h hc) e2_fz)) (hC []) (X := e2x_59) ex2_59 0 ck_a70_e
/-! a71 X3_parseLevel -/
def as_a71 : List ev_V := [(2, 33, 0), (2, 30, 0), (0, 3, 0), (0, 4, 0)]
def E_a71 : e2_E := [(2147483648, 2147583648, 0, 0), (2147483652, 2147483668, 1, 0), (2147483648, 2147485248, 2, 0)]
noncomputable def f_a71 : ev_H := (an591 : e2_Q8)
noncomputable def q_a71_0 : ev_H := (an591 : e2_Q8)
noncomputable def rs_a71 : e2_Rs := [((11, 2147483648, 2147483649), q_a71_0)]
noncomputable def s_a71 : e2_Sm := (59, as_a71, E_a71, f_a71, rs_a71)
noncomputable def S_a71 : List e2_Sm := [s_a37, s_a70]
noncomputable def I_a71 : List e2_In := [(19, 2, e2x_19), (20, 2, e2x_20), (60, 1, e2x_60)]
set_option maxRecDepth 1000000 in
theorem co_a71 : e2_okSB E_a71.length as_a71 f_a71 rs_a71 = true := by decide +kernel
def al_a71_0 : List ev_V := [(2, 33, 0), (2, 30, 0), (0, 3, 0), (0, 4, 0), (0, 30, 0), (1, 3, 4294967296), (9, 0, 0)]
def E_a71_0 : e2_E := [(2147483648, 2147583648, 0, 0), (2147483652, 2147483668, 1, 0), (2147483648, 2147485248, 2, 0), (2147483648, 2147483678, 3, 0)]
noncomputable def h_a71_0 : ev_H := (an591 : e2_Q8)
noncomputable def cl_a71_e : List (Nat × e2_S) := [(66, e2_cutL (al_a71_0.set 5 (11, 2147483648, 2147483678)) 3 (E_a71_0.take 3) h_a71_0)]
set_option maxRecDepth 1000000 in
theorem ck_a71_e : e2_run (e2_cal S_a71 I_a71 4000 2) (e2_fin rs_a71) e2x_59 (e2_bpL cl_a71_e) (e2_cutA cl_a71_e) 4000 (e2_seek e2x_59 0) (e2_al 7 as_a71) [] E_a71 f_a71 = true := by decide +kernel
noncomputable def cl_a71_0 : List (Nat × e2_S) := [(66, e2_cutL (al_a71_0.set 5 (13, 11, 2147483678)) 3 (E_a71_0.take 3) h_a71_0)]
set_option maxRecDepth 1000000 in
theorem ck_a71_0 : e2_runM (e2_cal S_a71 I_a71 4000 2) (e2_fin rs_a71) e2x_59 (e2_bpL cl_a71_0) (e2_cutA cl_a71_0) 4000 (e2_seek e2x_59 66) al_a71_0 [] E_a71_0 h_a71_0 = true := by decide +kernel
set_option maxRecDepth 1000000 in
theorem ci_a71_0 : e2_idl 3 (al_a71_0.set 5 (9, 0, 0)) = true := by decide +kernel
set_option maxRecDepth 1000000 in
theorem cj_a71_0 : e2_idh 3 8 h_a71_0 = true := by decide +kernel
theorem cs_a71 (hen : en_ok) (l : Launch) (hh : e2_hand_a l) : e2_smOk l 129 s_a71 := by
  refine e2_conG (H := 126) (n := 2) (C := evd_59) (S := S_a71) (I := I_a71) (fuel := 4000) hen ei_59 (e2_fa ((cs_a37 hen l hh).mono (by decide)) (e2_fa (cs_a70 hen l hh) e2_fz)) (e2_fa ein_19 (e2_fa ein_20 (e2_fa ein_60 e2_fz))) (by decide) co_a71 fun M d _ hC hcall p e R s m args below meth c Q D cA A ads r0 ha hl0 => ?_
  have L_0 : e2_gdM M p l e R s m args below meth c Q D cA A ads r0 66 al_a71_0 [] E_a71_0 h_a71_0 := by
    refine e2_indL (u := 3) (j := 5) (lo := 2147483648) (hi := 2147483678) (b := 3) (dd := 0) hl0 (by decide) rfl rfl (Or.inr ⟨rfl, rfl⟩) rfl ci_a71_0 cj_a71_0 ?_
    intro r_0 k_0 hk_0 hp_0 hs_0 hn_0
    have hl_0 : r_0.length ≤ 4 := hs_0.len rfl
    have ha_0 := ha.ext hp_0
    exact e2_fromM hen ha_0 hcall (e2_cutA_ok (e2_fa (fun al st E h hc => hn_0 al st E h hc) e2_fz)) (hC []) (X := e2x_59) ex2_59 66 ck_a71_0
  have EN_0 := e2_entL (u := 3) (j := 5) (lo := 2147483648) (hi := 2147483678) hl0 rfl rfl rfl ci_a71_0 cj_a71_0 L_0
  exact e2_from hen ha hcall (e2_cutA_ok (e2_fa (fun al st E h hc => EN_0 al st E h hc) e2_fz)) (hC []) (X := e2x_59) ex2_59 0 ck_a71_e
/-! a72 X3_parseNot -/
def as_a72 : List ev_V := [(2, 33, 0), (2, 30, 0), (0, 4, 0)]
def E_a72 : e2_E := [(2147483648, 2147583648, 0, 0), (2147483652, 2147483668, 1, 0), (2147483648, 2147485248, 2, 0)]
noncomputable def f_a72 : ev_H := (an591 : e2_Q8)
noncomputable def q_a72_0 : ev_H := (an591 : e2_Q8)
noncomputable def rs_a72 : e2_Rs := [((11, 2147483648, 2147483649), q_a72_0)]
noncomputable def s_a72 : e2_Sm := (61, as_a72, E_a72, f_a72, rs_a72)
noncomputable def S_a72 : List e2_Sm := [s_a37, s_a65]
noncomputable def I_a72 : List e2_In := [(19, 2, e2x_19), (20, 2, e2x_20)]
set_option maxRecDepth 1000000 in
theorem ck_a72 : e2_run (e2_cal S_a72 I_a72 4000 2) (e2_fin rs_a72) e2x_61 (fun _ => false) (fun _ _ _ _ _ => false) 4000 (e2_seek e2x_61 0) (e2_al 3 as_a72) [] E_a72 f_a72 = true := by decide +kernel
set_option maxRecDepth 1000000 in
theorem co_a72 : e2_okSB E_a72.length as_a72 f_a72 rs_a72 = true := by decide +kernel
theorem cs_a72 (hen : en_ok) (l : Launch) (hh : e2_hand_a l) : e2_smOk l 116 s_a72 := e2_con0 (H := 113) (n := 2) (C := evd_61) (S := S_a72) (I := I_a72) (fuel := 4000) [] hen ei_61 (e2_fa ((cs_a37 hen l hh).mono (by decide)) (e2_fa (cs_a65 hen l hh) e2_fz)) (e2_fa ein_19 (e2_fa ein_20 e2_fz)) (by decide) co_a72 ex2_61 ck_a72
/-! a73 X3_parseLevel -/
def as_a73 : List ev_V := [(2, 33, 0), (2, 30, 0), (0, 2, 0), (0, 4, 0)]
def E_a73 : e2_E := [(2147483648, 2147583648, 0, 0), (2147483652, 2147483668, 1, 0), (2147483648, 2147485248, 2, 0)]
noncomputable def f_a73 : ev_H := (an591 : e2_Q8)
noncomputable def q_a73_0 : ev_H := (an591 : e2_Q8)
noncomputable def rs_a73 : e2_Rs := [((11, 2147483648, 2147483649), q_a73_0)]
noncomputable def s_a73 : e2_Sm := (59, as_a73, E_a73, f_a73, rs_a73)
noncomputable def S_a73 : List e2_Sm := [s_a37, s_a71, s_a72]
noncomputable def I_a73 : List e2_In := [(19, 2, e2x_19), (20, 2, e2x_20), (60, 1, e2x_60)]
set_option maxRecDepth 1000000 in
theorem co_a73 : e2_okSB E_a73.length as_a73 f_a73 rs_a73 = true := by decide +kernel
def al_a73_0 : List ev_V := [(2, 33, 0), (2, 30, 0), (0, 2, 0), (0, 4, 0), (0, 1, 0), (1, 3, 4294967296), (9, 0, 0)]
def E_a73_0 : e2_E := [(2147483648, 2147583648, 0, 0), (2147483652, 2147483668, 1, 0), (2147483648, 2147485248, 2, 0), (2147483648, 2147483649, 3, 0)]
noncomputable def h_a73_0 : ev_H := (an591 : e2_Q8)
noncomputable def cl_a73_e : List (Nat × e2_S) := [(66, e2_cutL (al_a73_0.set 5 (11, 2147483648, 2147483649)) 3 (E_a73_0.take 3) h_a73_0)]
set_option maxRecDepth 1000000 in
theorem ck_a73_e : e2_run (e2_cal S_a73 I_a73 4000 2) (e2_fin rs_a73) e2x_59 (e2_bpL cl_a73_e) (e2_cutA cl_a73_e) 4000 (e2_seek e2x_59 0) (e2_al 7 as_a73) [] E_a73 f_a73 = true := by decide +kernel
noncomputable def cl_a73_0 : List (Nat × e2_S) := [(66, e2_cutL (al_a73_0.set 5 (13, 11, 2147483649)) 3 (E_a73_0.take 3) h_a73_0)]
set_option maxRecDepth 1000000 in
theorem ck_a73_0 : e2_runM (e2_cal S_a73 I_a73 4000 2) (e2_fin rs_a73) e2x_59 (e2_bpL cl_a73_0) (e2_cutA cl_a73_0) 4000 (e2_seek e2x_59 66) al_a73_0 [] E_a73_0 h_a73_0 = true := by decide +kernel
set_option maxRecDepth 1000000 in
theorem ci_a73_0 : e2_idl 3 (al_a73_0.set 5 (9, 0, 0)) = true := by decide +kernel
set_option maxRecDepth 1000000 in
theorem cj_a73_0 : e2_idh 3 8 h_a73_0 = true := by decide +kernel
theorem cs_a73 (hen : en_ok) (l : Launch) (hh : e2_hand_a l) : e2_smOk l 132 s_a73 := by
  refine e2_conG (H := 129) (n := 2) (C := evd_59) (S := S_a73) (I := I_a73) (fuel := 4000) hen ei_59 (e2_fa ((cs_a37 hen l hh).mono (by decide)) (e2_fa (cs_a71 hen l hh) (e2_fa ((cs_a72 hen l hh).mono (by decide)) e2_fz))) (e2_fa ein_19 (e2_fa ein_20 (e2_fa ein_60 e2_fz))) (by decide) co_a73 fun M d _ hC hcall p e R s m args below meth c Q D cA A ads r0 ha hl0 => ?_
  have L_0 : e2_gdM M p l e R s m args below meth c Q D cA A ads r0 66 al_a73_0 [] E_a73_0 h_a73_0 := by
    refine e2_indL (u := 3) (j := 5) (lo := 2147483648) (hi := 2147483649) (b := 3) (dd := 0) hl0 (by decide) rfl rfl (Or.inr ⟨rfl, rfl⟩) rfl ci_a73_0 cj_a73_0 ?_
    intro r_0 k_0 hk_0 hp_0 hs_0 hn_0
    have hl_0 : r_0.length ≤ 4 := hs_0.len rfl
    have ha_0 := ha.ext hp_0
    exact e2_fromM hen ha_0 hcall (e2_cutA_ok (e2_fa (fun al st E h hc => hn_0 al st E h hc) e2_fz)) (hC []) (X := e2x_59) ex2_59 66 ck_a73_0
  have EN_0 := e2_entL (u := 3) (j := 5) (lo := 2147483648) (hi := 2147483649) hl0 rfl rfl rfl ci_a73_0 cj_a73_0 L_0
  exact e2_from hen ha hcall (e2_cutA_ok (e2_fa (fun al st E h hc => EN_0 al st E h hc) e2_fz)) (hC []) (X := e2x_59) ex2_59 0 ck_a73_e
/-! a74 X3_parseLevel -/
def as_a74 : List ev_V := [(2, 33, 0), (2, 30, 0), (0, 1, 0), (0, 4, 0)]
def E_a74 : e2_E := [(2147483648, 2147583648, 0, 0), (2147483652, 2147483668, 1, 0), (2147483648, 2147485248, 2, 0)]
noncomputable def f_a74 : ev_H := (an591 : e2_Q8)
noncomputable def q_a74_0 : ev_H := (an591 : e2_Q8)
noncomputable def rs_a74 : e2_Rs := [((11, 2147483648, 2147483649), q_a74_0)]
noncomputable def s_a74 : e2_Sm := (59, as_a74, E_a74, f_a74, rs_a74)
noncomputable def S_a74 : List e2_Sm := [s_a37, s_a73]
noncomputable def I_a74 : List e2_In := [(19, 2, e2x_19), (20, 2, e2x_20), (60, 1, e2x_60)]
set_option maxRecDepth 1000000 in
theorem co_a74 : e2_okSB E_a74.length as_a74 f_a74 rs_a74 = true := by decide +kernel
def al_a74_0 : List ev_V := [(2, 33, 0), (2, 30, 0), (0, 1, 0), (0, 4, 0), (0, 30, 0), (1, 3, 4294967296), (9, 0, 0)]
def E_a74_0 : e2_E := [(2147483648, 2147583648, 0, 0), (2147483652, 2147483668, 1, 0), (2147483648, 2147485248, 2, 0), (2147483648, 2147483678, 3, 0)]
noncomputable def h_a74_0 : ev_H := (an591 : e2_Q8)
noncomputable def cl_a74_e : List (Nat × e2_S) := [(66, e2_cutL (al_a74_0.set 5 (11, 2147483648, 2147483678)) 3 (E_a74_0.take 3) h_a74_0)]
set_option maxRecDepth 1000000 in
theorem ck_a74_e : e2_run (e2_cal S_a74 I_a74 4000 2) (e2_fin rs_a74) e2x_59 (e2_bpL cl_a74_e) (e2_cutA cl_a74_e) 4000 (e2_seek e2x_59 0) (e2_al 7 as_a74) [] E_a74 f_a74 = true := by decide +kernel
noncomputable def cl_a74_0 : List (Nat × e2_S) := [(66, e2_cutL (al_a74_0.set 5 (13, 11, 2147483678)) 3 (E_a74_0.take 3) h_a74_0)]
set_option maxRecDepth 1000000 in
theorem ck_a74_0 : e2_runM (e2_cal S_a74 I_a74 4000 2) (e2_fin rs_a74) e2x_59 (e2_bpL cl_a74_0) (e2_cutA cl_a74_0) 4000 (e2_seek e2x_59 66) al_a74_0 [] E_a74_0 h_a74_0 = true := by decide +kernel
set_option maxRecDepth 1000000 in
theorem ci_a74_0 : e2_idl 3 (al_a74_0.set 5 (9, 0, 0)) = true := by decide +kernel
set_option maxRecDepth 1000000 in
theorem cj_a74_0 : e2_idh 3 8 h_a74_0 = true := by decide +kernel
theorem cs_a74 (hen : en_ok) (l : Launch) (hh : e2_hand_a l) : e2_smOk l 135 s_a74 := by
  refine e2_conG (H := 132) (n := 2) (C := evd_59) (S := S_a74) (I := I_a74) (fuel := 4000) hen ei_59 (e2_fa ((cs_a37 hen l hh).mono (by decide)) (e2_fa (cs_a73 hen l hh) e2_fz)) (e2_fa ein_19 (e2_fa ein_20 (e2_fa ein_60 e2_fz))) (by decide) co_a74 fun M d _ hC hcall p e R s m args below meth c Q D cA A ads r0 ha hl0 => ?_
  have L_0 : e2_gdM M p l e R s m args below meth c Q D cA A ads r0 66 al_a74_0 [] E_a74_0 h_a74_0 := by
    refine e2_indL (u := 3) (j := 5) (lo := 2147483648) (hi := 2147483678) (b := 3) (dd := 0) hl0 (by decide) rfl rfl (Or.inr ⟨rfl, rfl⟩) rfl ci_a74_0 cj_a74_0 ?_
    intro r_0 k_0 hk_0 hp_0 hs_0 hn_0
    have hl_0 : r_0.length ≤ 4 := hs_0.len rfl
    have ha_0 := ha.ext hp_0
    exact e2_fromM hen ha_0 hcall (e2_cutA_ok (e2_fa (fun al st E h hc => hn_0 al st E h hc) e2_fz)) (hC []) (X := e2x_59) ex2_59 66 ck_a74_0
  have EN_0 := e2_entL (u := 3) (j := 5) (lo := 2147483648) (hi := 2147483678) hl0 rfl rfl rfl ci_a74_0 cj_a74_0 L_0
  exact e2_from hen ha hcall (e2_cutA_ok (e2_fa (fun al st E h hc => EN_0 al st E h hc) e2_fz)) (hC []) (X := e2x_59) ex2_59 0 ck_a74_e
/-! a75 X3_parseLevel -/
def as_a75 : List ev_V := [(2, 33, 0), (2, 30, 0), (0, 0, 0), (0, 4, 0)]
def E_a75 : e2_E := [(2147483648, 2147583648, 0, 0), (2147483652, 2147483668, 1, 0), (2147483648, 2147485248, 2, 0)]
noncomputable def f_a75 : ev_H := (an591 : e2_Q8)
noncomputable def q_a75_0 : ev_H := (an591 : e2_Q8)
noncomputable def rs_a75 : e2_Rs := [((11, 2147483648, 2147483649), q_a75_0)]
noncomputable def s_a75 : e2_Sm := (59, as_a75, E_a75, f_a75, rs_a75)
noncomputable def S_a75 : List e2_Sm := [s_a37, s_a74]
noncomputable def I_a75 : List e2_In := [(19, 2, e2x_19), (20, 2, e2x_20), (60, 1, e2x_60)]
set_option maxRecDepth 1000000 in
theorem co_a75 : e2_okSB E_a75.length as_a75 f_a75 rs_a75 = true := by decide +kernel
def al_a75_0 : List ev_V := [(2, 33, 0), (2, 30, 0), (0, 0, 0), (0, 4, 0), (0, 30, 0), (1, 3, 4294967296), (9, 0, 0)]
def E_a75_0 : e2_E := [(2147483648, 2147583648, 0, 0), (2147483652, 2147483668, 1, 0), (2147483648, 2147485248, 2, 0), (2147483648, 2147483678, 3, 0)]
noncomputable def h_a75_0 : ev_H := (an591 : e2_Q8)
noncomputable def cl_a75_e : List (Nat × e2_S) := [(66, e2_cutL (al_a75_0.set 5 (11, 2147483648, 2147483678)) 3 (E_a75_0.take 3) h_a75_0)]
set_option maxRecDepth 1000000 in
theorem ck_a75_e : e2_run (e2_cal S_a75 I_a75 4000 2) (e2_fin rs_a75) e2x_59 (e2_bpL cl_a75_e) (e2_cutA cl_a75_e) 4000 (e2_seek e2x_59 0) (e2_al 7 as_a75) [] E_a75 f_a75 = true := by decide +kernel
noncomputable def cl_a75_0 : List (Nat × e2_S) := [(66, e2_cutL (al_a75_0.set 5 (13, 11, 2147483678)) 3 (E_a75_0.take 3) h_a75_0)]
set_option maxRecDepth 1000000 in
theorem ck_a75_0 : e2_runM (e2_cal S_a75 I_a75 4000 2) (e2_fin rs_a75) e2x_59 (e2_bpL cl_a75_0) (e2_cutA cl_a75_0) 4000 (e2_seek e2x_59 66) al_a75_0 [] E_a75_0 h_a75_0 = true := by decide +kernel
set_option maxRecDepth 1000000 in
theorem ci_a75_0 : e2_idl 3 (al_a75_0.set 5 (9, 0, 0)) = true := by decide +kernel
set_option maxRecDepth 1000000 in
theorem cj_a75_0 : e2_idh 3 8 h_a75_0 = true := by decide +kernel
theorem cs_a75 (hen : en_ok) (l : Launch) (hh : e2_hand_a l) : e2_smOk l 138 s_a75 := by
  refine e2_conG (H := 135) (n := 2) (C := evd_59) (S := S_a75) (I := I_a75) (fuel := 4000) hen ei_59 (e2_fa ((cs_a37 hen l hh).mono (by decide)) (e2_fa (cs_a74 hen l hh) e2_fz)) (e2_fa ein_19 (e2_fa ein_20 (e2_fa ein_60 e2_fz))) (by decide) co_a75 fun M d _ hC hcall p e R s m args below meth c Q D cA A ads r0 ha hl0 => ?_
  have L_0 : e2_gdM M p l e R s m args below meth c Q D cA A ads r0 66 al_a75_0 [] E_a75_0 h_a75_0 := by
    refine e2_indL (u := 3) (j := 5) (lo := 2147483648) (hi := 2147483678) (b := 3) (dd := 0) hl0 (by decide) rfl rfl (Or.inr ⟨rfl, rfl⟩) rfl ci_a75_0 cj_a75_0 ?_
    intro r_0 k_0 hk_0 hp_0 hs_0 hn_0
    have hl_0 : r_0.length ≤ 4 := hs_0.len rfl
    have ha_0 := ha.ext hp_0
    exact e2_fromM hen ha_0 hcall (e2_cutA_ok (e2_fa (fun al st E h hc => hn_0 al st E h hc) e2_fz)) (hC []) (X := e2x_59) ex2_59 66 ck_a75_0
  have EN_0 := e2_entL (u := 3) (j := 5) (lo := 2147483648) (hi := 2147483678) hl0 rfl rfl rfl ci_a75_0 cj_a75_0 L_0
  exact e2_from hen ha hcall (e2_cutA_ok (e2_fa (fun al st E h hc => EN_0 al st E h hc) e2_fz)) (hC []) (X := e2x_59) ex2_59 0 ck_a75_e
/-! a76 X3_parseUnit -/
def as_a76 : List ev_V := [(2, 33, 0), (2, 30, 0), (0, 3, 0)]
def E_a76 : e2_E := [(2147483648, 2147583648, 0, 0), (2147483652, 2147483668, 1, 0), (2147483648, 2147485248, 2, 0)]
noncomputable def f_a76 : ev_H := (an591 : e2_Q8)
noncomputable def q_a76_0 : ev_H := (an591 : e2_Q8)
noncomputable def rs_a76 : e2_Rs := [((11, 2147483648, 2147483649), q_a76_0)]
noncomputable def s_a76 : e2_Sm := (62, as_a76, E_a76, f_a76, rs_a76)
noncomputable def S_a76 : List e2_Sm := [s_a37, s_a38, s_a75]
noncomputable def I_a76 : List e2_In := [(18, 2, e2x_18), (19, 2, e2x_19), (20, 2, e2x_20), (43, 2, e2x_43), (44, 3, e2x_44)]
set_option maxRecDepth 1000000 in
theorem ck_a76 : e2_run (e2_cal S_a76 I_a76 4000 2) (e2_fin rs_a76) e2x_62 (fun _ => false) (fun _ _ _ _ _ => false) 4000 (e2_seek e2x_62 0) (e2_al 7 as_a76) [] E_a76 f_a76 = true := by decide +kernel
set_option maxRecDepth 1000000 in
theorem co_a76 : e2_okSB E_a76.length as_a76 f_a76 rs_a76 = true := by decide +kernel
theorem cs_a76 (hen : en_ok) (l : Launch) (hh : e2_hand_a l) : e2_smOk l 141 s_a76 := e2_con0 (H := 138) (n := 2) (C := evd_62) (S := S_a76) (I := I_a76) (fuel := 4000) [] hen ei_62 (e2_fa ((cs_a37 hen l hh).mono (by decide)) (e2_fa ((cs_a38 hen l hh).mono (by decide)) (e2_fa (cs_a75 hen l hh) e2_fz))) (e2_fa ein_18 (e2_fa ein_19 (e2_fa ein_20 (e2_fa ein_43 (e2_fa ein_44 e2_fz))))) (by decide) co_a76 ex2_62 ck_a76
/-! a77 X3_parseLevel -/
def as_a77 : List ev_V := [(2, 33, 0), (2, 30, 0), (0, 5, 0), (0, 3, 0)]
def E_a77 : e2_E := [(2147483648, 2147583648, 0, 0), (2147483652, 2147483668, 1, 0), (2147483648, 2147485248, 2, 0)]
noncomputable def f_a77 : ev_H := (an591 : e2_Q8)
noncomputable def q_a77_0 : ev_H := (an591 : e2_Q8)
noncomputable def rs_a77 : e2_Rs := [((11, 2147483648, 2147483649), q_a77_0)]
noncomputable def s_a77 : e2_Sm := (59, as_a77, E_a77, f_a77, rs_a77)
noncomputable def S_a77 : List e2_Sm := [s_a76]
noncomputable def I_a77 : List e2_In := []
set_option maxRecDepth 1000000 in
theorem ck_a77 : e2_run (e2_cal S_a77 I_a77 4000 0) (e2_fin rs_a77) e2x_59 (fun _ => false) (fun _ _ _ _ _ => false) 4000 (e2_seek e2x_59 0) (e2_al 7 as_a77) [] E_a77 f_a77 = true := by decide +kernel
set_option maxRecDepth 1000000 in
theorem co_a77 : e2_okSB E_a77.length as_a77 f_a77 rs_a77 = true := by decide +kernel
theorem cs_a77 (hen : en_ok) (l : Launch) (hh : e2_hand_a l) : e2_smOk l 142 s_a77 := e2_con0 (H := 141) (n := 0) (C := evd_59) (S := S_a77) (I := I_a77) (fuel := 4000) [] hen ei_59 (e2_fa (cs_a76 hen l hh) e2_fz) e2_fz (by decide) co_a77 ex2_59 ck_a77
/-! a78 X3_parseLevel -/
def as_a78 : List ev_V := [(2, 33, 0), (2, 30, 0), (0, 4, 0), (0, 3, 0)]
def E_a78 : e2_E := [(2147483648, 2147583648, 0, 0), (2147483652, 2147483668, 1, 0), (2147483648, 2147485248, 2, 0)]
noncomputable def f_a78 : ev_H := (an591 : e2_Q8)
noncomputable def q_a78_0 : ev_H := (an591 : e2_Q8)
noncomputable def rs_a78 : e2_Rs := [((11, 2147483648, 2147483649), q_a78_0)]
noncomputable def s_a78 : e2_Sm := (59, as_a78, E_a78, f_a78, rs_a78)
noncomputable def S_a78 : List e2_Sm := [s_a37, s_a77]
noncomputable def I_a78 : List e2_In := [(19, 2, e2x_19), (20, 2, e2x_20), (60, 1, e2x_60)]
set_option maxRecDepth 1000000 in
theorem co_a78 : e2_okSB E_a78.length as_a78 f_a78 rs_a78 = true := by decide +kernel
def al_a78_0 : List ev_V := [(2, 33, 0), (2, 30, 0), (0, 4, 0), (0, 3, 0), (0, 30, 0), (1, 3, 4294967296), (9, 0, 0)]
def E_a78_0 : e2_E := [(2147483648, 2147583648, 0, 0), (2147483652, 2147483668, 1, 0), (2147483648, 2147485248, 2, 0), (2147483648, 2147483678, 3, 0)]
noncomputable def h_a78_0 : ev_H := (an591 : e2_Q8)
noncomputable def cl_a78_e : List (Nat × e2_S) := [(66, e2_cutL (al_a78_0.set 5 (11, 2147483648, 2147483678)) 3 (E_a78_0.take 3) h_a78_0)]
set_option maxRecDepth 1000000 in
theorem ck_a78_e : e2_run (e2_cal S_a78 I_a78 4000 2) (e2_fin rs_a78) e2x_59 (e2_bpL cl_a78_e) (e2_cutA cl_a78_e) 4000 (e2_seek e2x_59 0) (e2_al 7 as_a78) [] E_a78 f_a78 = true := by decide +kernel
noncomputable def cl_a78_0 : List (Nat × e2_S) := [(66, e2_cutL (al_a78_0.set 5 (13, 11, 2147483678)) 3 (E_a78_0.take 3) h_a78_0)]
set_option maxRecDepth 1000000 in
theorem ck_a78_0 : e2_runM (e2_cal S_a78 I_a78 4000 2) (e2_fin rs_a78) e2x_59 (e2_bpL cl_a78_0) (e2_cutA cl_a78_0) 4000 (e2_seek e2x_59 66) al_a78_0 [] E_a78_0 h_a78_0 = true := by decide +kernel
set_option maxRecDepth 1000000 in
theorem ci_a78_0 : e2_idl 3 (al_a78_0.set 5 (9, 0, 0)) = true := by decide +kernel
set_option maxRecDepth 1000000 in
theorem cj_a78_0 : e2_idh 3 8 h_a78_0 = true := by decide +kernel
theorem cs_a78 (hen : en_ok) (l : Launch) (hh : e2_hand_a l) : e2_smOk l 145 s_a78 := by
  refine e2_conG (H := 142) (n := 2) (C := evd_59) (S := S_a78) (I := I_a78) (fuel := 4000) hen ei_59 (e2_fa ((cs_a37 hen l hh).mono (by decide)) (e2_fa (cs_a77 hen l hh) e2_fz)) (e2_fa ein_19 (e2_fa ein_20 (e2_fa ein_60 e2_fz))) (by decide) co_a78 fun M d _ hC hcall p e R s m args below meth c Q D cA A ads r0 ha hl0 => ?_
  have L_0 : e2_gdM M p l e R s m args below meth c Q D cA A ads r0 66 al_a78_0 [] E_a78_0 h_a78_0 := by
    refine e2_indL (u := 3) (j := 5) (lo := 2147483648) (hi := 2147483678) (b := 3) (dd := 0) hl0 (by decide) rfl rfl (Or.inr ⟨rfl, rfl⟩) rfl ci_a78_0 cj_a78_0 ?_
    intro r_0 k_0 hk_0 hp_0 hs_0 hn_0
    have hl_0 : r_0.length ≤ 4 := hs_0.len rfl
    have ha_0 := ha.ext hp_0
    exact e2_fromM hen ha_0 hcall (e2_cutA_ok (e2_fa (fun al st E h hc => hn_0 al st E h hc) e2_fz)) (hC []) (X := e2x_59) ex2_59 66 ck_a78_0
  have EN_0 := e2_entL (u := 3) (j := 5) (lo := 2147483648) (hi := 2147483678) hl0 rfl rfl rfl ci_a78_0 cj_a78_0 L_0
  exact e2_from hen ha hcall (e2_cutA_ok (e2_fa (fun al st E h hc => EN_0 al st E h hc) e2_fz)) (hC []) (X := e2x_59) ex2_59 0 ck_a78_e
/-! a79 X3_parseLevel -/
def as_a79 : List ev_V := [(2, 33, 0), (2, 30, 0), (0, 3, 0), (0, 3, 0)]
def E_a79 : e2_E := [(2147483648, 2147583648, 0, 0), (2147483652, 2147483668, 1, 0), (2147483648, 2147485248, 2, 0)]
noncomputable def f_a79 : ev_H := (an591 : e2_Q8)
noncomputable def q_a79_0 : ev_H := (an591 : e2_Q8)
noncomputable def rs_a79 : e2_Rs := [((11, 2147483648, 2147483649), q_a79_0)]
noncomputable def s_a79 : e2_Sm := (59, as_a79, E_a79, f_a79, rs_a79)
noncomputable def S_a79 : List e2_Sm := [s_a37, s_a78]
noncomputable def I_a79 : List e2_In := [(19, 2, e2x_19), (20, 2, e2x_20), (60, 1, e2x_60)]
set_option maxRecDepth 1000000 in
theorem co_a79 : e2_okSB E_a79.length as_a79 f_a79 rs_a79 = true := by decide +kernel
def al_a79_0 : List ev_V := [(2, 33, 0), (2, 30, 0), (0, 3, 0), (0, 3, 0), (0, 30, 0), (1, 3, 4294967296), (9, 0, 0)]
def E_a79_0 : e2_E := [(2147483648, 2147583648, 0, 0), (2147483652, 2147483668, 1, 0), (2147483648, 2147485248, 2, 0), (2147483648, 2147483678, 3, 0)]
noncomputable def h_a79_0 : ev_H := (an591 : e2_Q8)
noncomputable def cl_a79_e : List (Nat × e2_S) := [(66, e2_cutL (al_a79_0.set 5 (11, 2147483648, 2147483678)) 3 (E_a79_0.take 3) h_a79_0)]
set_option maxRecDepth 1000000 in
theorem ck_a79_e : e2_run (e2_cal S_a79 I_a79 4000 2) (e2_fin rs_a79) e2x_59 (e2_bpL cl_a79_e) (e2_cutA cl_a79_e) 4000 (e2_seek e2x_59 0) (e2_al 7 as_a79) [] E_a79 f_a79 = true := by decide +kernel
noncomputable def cl_a79_0 : List (Nat × e2_S) := [(66, e2_cutL (al_a79_0.set 5 (13, 11, 2147483678)) 3 (E_a79_0.take 3) h_a79_0)]
set_option maxRecDepth 1000000 in
theorem ck_a79_0 : e2_runM (e2_cal S_a79 I_a79 4000 2) (e2_fin rs_a79) e2x_59 (e2_bpL cl_a79_0) (e2_cutA cl_a79_0) 4000 (e2_seek e2x_59 66) al_a79_0 [] E_a79_0 h_a79_0 = true := by decide +kernel
set_option maxRecDepth 1000000 in
theorem ci_a79_0 : e2_idl 3 (al_a79_0.set 5 (9, 0, 0)) = true := by decide +kernel
set_option maxRecDepth 1000000 in
theorem cj_a79_0 : e2_idh 3 8 h_a79_0 = true := by decide +kernel
theorem cs_a79 (hen : en_ok) (l : Launch) (hh : e2_hand_a l) : e2_smOk l 148 s_a79 := by
  refine e2_conG (H := 145) (n := 2) (C := evd_59) (S := S_a79) (I := I_a79) (fuel := 4000) hen ei_59 (e2_fa ((cs_a37 hen l hh).mono (by decide)) (e2_fa (cs_a78 hen l hh) e2_fz)) (e2_fa ein_19 (e2_fa ein_20 (e2_fa ein_60 e2_fz))) (by decide) co_a79 fun M d _ hC hcall p e R s m args below meth c Q D cA A ads r0 ha hl0 => ?_
  have L_0 : e2_gdM M p l e R s m args below meth c Q D cA A ads r0 66 al_a79_0 [] E_a79_0 h_a79_0 := by
    refine e2_indL (u := 3) (j := 5) (lo := 2147483648) (hi := 2147483678) (b := 3) (dd := 0) hl0 (by decide) rfl rfl (Or.inr ⟨rfl, rfl⟩) rfl ci_a79_0 cj_a79_0 ?_
    intro r_0 k_0 hk_0 hp_0 hs_0 hn_0
    have hl_0 : r_0.length ≤ 4 := hs_0.len rfl
    have ha_0 := ha.ext hp_0
    exact e2_fromM hen ha_0 hcall (e2_cutA_ok (e2_fa (fun al st E h hc => hn_0 al st E h hc) e2_fz)) (hC []) (X := e2x_59) ex2_59 66 ck_a79_0
  have EN_0 := e2_entL (u := 3) (j := 5) (lo := 2147483648) (hi := 2147483678) hl0 rfl rfl rfl ci_a79_0 cj_a79_0 L_0
  exact e2_from hen ha hcall (e2_cutA_ok (e2_fa (fun al st E h hc => EN_0 al st E h hc) e2_fz)) (hC []) (X := e2x_59) ex2_59 0 ck_a79_e
/-! a80 X3_parseNot -/
def as_a80 : List ev_V := [(2, 33, 0), (2, 30, 0), (0, 3, 0)]
def E_a80 : e2_E := [(2147483648, 2147583648, 0, 0), (2147483652, 2147483668, 1, 0), (2147483648, 2147485248, 2, 0)]
noncomputable def f_a80 : ev_H := (an591 : e2_Q8)
noncomputable def q_a80_0 : ev_H := (an591 : e2_Q8)
noncomputable def rs_a80 : e2_Rs := [((11, 2147483648, 2147483649), q_a80_0)]
noncomputable def s_a80 : e2_Sm := (61, as_a80, E_a80, f_a80, rs_a80)
noncomputable def S_a80 : List e2_Sm := [s_a37, s_a73]
noncomputable def I_a80 : List e2_In := [(19, 2, e2x_19), (20, 2, e2x_20)]
set_option maxRecDepth 1000000 in
theorem ck_a80 : e2_run (e2_cal S_a80 I_a80 4000 2) (e2_fin rs_a80) e2x_61 (fun _ => false) (fun _ _ _ _ _ => false) 4000 (e2_seek e2x_61 0) (e2_al 3 as_a80) [] E_a80 f_a80 = true := by decide +kernel
set_option maxRecDepth 1000000 in
theorem co_a80 : e2_okSB E_a80.length as_a80 f_a80 rs_a80 = true := by decide +kernel
theorem cs_a80 (hen : en_ok) (l : Launch) (hh : e2_hand_a l) : e2_smOk l 135 s_a80 := e2_con0 (H := 132) (n := 2) (C := evd_61) (S := S_a80) (I := I_a80) (fuel := 4000) [] hen ei_61 (e2_fa ((cs_a37 hen l hh).mono (by decide)) (e2_fa (cs_a73 hen l hh) e2_fz)) (e2_fa ein_19 (e2_fa ein_20 e2_fz)) (by decide) co_a80 ex2_61 ck_a80
/-! a81 X3_parseLevel -/
def as_a81 : List ev_V := [(2, 33, 0), (2, 30, 0), (0, 2, 0), (0, 3, 0)]
def E_a81 : e2_E := [(2147483648, 2147583648, 0, 0), (2147483652, 2147483668, 1, 0), (2147483648, 2147485248, 2, 0)]
noncomputable def f_a81 : ev_H := (an591 : e2_Q8)
noncomputable def q_a81_0 : ev_H := (an591 : e2_Q8)
noncomputable def rs_a81 : e2_Rs := [((11, 2147483648, 2147483649), q_a81_0)]
noncomputable def s_a81 : e2_Sm := (59, as_a81, E_a81, f_a81, rs_a81)
noncomputable def S_a81 : List e2_Sm := [s_a37, s_a79, s_a80]
noncomputable def I_a81 : List e2_In := [(19, 2, e2x_19), (20, 2, e2x_20), (60, 1, e2x_60)]
set_option maxRecDepth 1000000 in
theorem co_a81 : e2_okSB E_a81.length as_a81 f_a81 rs_a81 = true := by decide +kernel
def al_a81_0 : List ev_V := [(2, 33, 0), (2, 30, 0), (0, 2, 0), (0, 3, 0), (0, 1, 0), (1, 3, 4294967296), (9, 0, 0)]
def E_a81_0 : e2_E := [(2147483648, 2147583648, 0, 0), (2147483652, 2147483668, 1, 0), (2147483648, 2147485248, 2, 0), (2147483648, 2147483649, 3, 0)]
noncomputable def h_a81_0 : ev_H := (an591 : e2_Q8)
noncomputable def cl_a81_e : List (Nat × e2_S) := [(66, e2_cutL (al_a81_0.set 5 (11, 2147483648, 2147483649)) 3 (E_a81_0.take 3) h_a81_0)]
set_option maxRecDepth 1000000 in
theorem ck_a81_e : e2_run (e2_cal S_a81 I_a81 4000 2) (e2_fin rs_a81) e2x_59 (e2_bpL cl_a81_e) (e2_cutA cl_a81_e) 4000 (e2_seek e2x_59 0) (e2_al 7 as_a81) [] E_a81 f_a81 = true := by decide +kernel
noncomputable def cl_a81_0 : List (Nat × e2_S) := [(66, e2_cutL (al_a81_0.set 5 (13, 11, 2147483649)) 3 (E_a81_0.take 3) h_a81_0)]
set_option maxRecDepth 1000000 in
theorem ck_a81_0 : e2_runM (e2_cal S_a81 I_a81 4000 2) (e2_fin rs_a81) e2x_59 (e2_bpL cl_a81_0) (e2_cutA cl_a81_0) 4000 (e2_seek e2x_59 66) al_a81_0 [] E_a81_0 h_a81_0 = true := by decide +kernel
set_option maxRecDepth 1000000 in
theorem ci_a81_0 : e2_idl 3 (al_a81_0.set 5 (9, 0, 0)) = true := by decide +kernel
set_option maxRecDepth 1000000 in
theorem cj_a81_0 : e2_idh 3 8 h_a81_0 = true := by decide +kernel
theorem cs_a81 (hen : en_ok) (l : Launch) (hh : e2_hand_a l) : e2_smOk l 151 s_a81 := by
  refine e2_conG (H := 148) (n := 2) (C := evd_59) (S := S_a81) (I := I_a81) (fuel := 4000) hen ei_59 (e2_fa ((cs_a37 hen l hh).mono (by decide)) (e2_fa (cs_a79 hen l hh) (e2_fa ((cs_a80 hen l hh).mono (by decide)) e2_fz))) (e2_fa ein_19 (e2_fa ein_20 (e2_fa ein_60 e2_fz))) (by decide) co_a81 fun M d _ hC hcall p e R s m args below meth c Q D cA A ads r0 ha hl0 => ?_
  have L_0 : e2_gdM M p l e R s m args below meth c Q D cA A ads r0 66 al_a81_0 [] E_a81_0 h_a81_0 := by
    refine e2_indL (u := 3) (j := 5) (lo := 2147483648) (hi := 2147483649) (b := 3) (dd := 0) hl0 (by decide) rfl rfl (Or.inr ⟨rfl, rfl⟩) rfl ci_a81_0 cj_a81_0 ?_
    intro r_0 k_0 hk_0 hp_0 hs_0 hn_0
    have hl_0 : r_0.length ≤ 4 := hs_0.len rfl
    have ha_0 := ha.ext hp_0
    exact e2_fromM hen ha_0 hcall (e2_cutA_ok (e2_fa (fun al st E h hc => hn_0 al st E h hc) e2_fz)) (hC []) (X := e2x_59) ex2_59 66 ck_a81_0
  have EN_0 := e2_entL (u := 3) (j := 5) (lo := 2147483648) (hi := 2147483649) hl0 rfl rfl rfl ci_a81_0 cj_a81_0 L_0
  exact e2_from hen ha hcall (e2_cutA_ok (e2_fa (fun al st E h hc => EN_0 al st E h hc) e2_fz)) (hC []) (X := e2x_59) ex2_59 0 ck_a81_e
/-! a82 X3_parseLevel -/
def as_a82 : List ev_V := [(2, 33, 0), (2, 30, 0), (0, 1, 0), (0, 3, 0)]
def E_a82 : e2_E := [(2147483648, 2147583648, 0, 0), (2147483652, 2147483668, 1, 0), (2147483648, 2147485248, 2, 0)]
noncomputable def f_a82 : ev_H := (an591 : e2_Q8)
noncomputable def q_a82_0 : ev_H := (an591 : e2_Q8)
noncomputable def rs_a82 : e2_Rs := [((11, 2147483648, 2147483649), q_a82_0)]
noncomputable def s_a82 : e2_Sm := (59, as_a82, E_a82, f_a82, rs_a82)
noncomputable def S_a82 : List e2_Sm := [s_a37, s_a81]
noncomputable def I_a82 : List e2_In := [(19, 2, e2x_19), (20, 2, e2x_20), (60, 1, e2x_60)]
set_option maxRecDepth 1000000 in
theorem co_a82 : e2_okSB E_a82.length as_a82 f_a82 rs_a82 = true := by decide +kernel
def al_a82_0 : List ev_V := [(2, 33, 0), (2, 30, 0), (0, 1, 0), (0, 3, 0), (0, 30, 0), (1, 3, 4294967296), (9, 0, 0)]
def E_a82_0 : e2_E := [(2147483648, 2147583648, 0, 0), (2147483652, 2147483668, 1, 0), (2147483648, 2147485248, 2, 0), (2147483648, 2147483678, 3, 0)]
noncomputable def h_a82_0 : ev_H := (an591 : e2_Q8)
noncomputable def cl_a82_e : List (Nat × e2_S) := [(66, e2_cutL (al_a82_0.set 5 (11, 2147483648, 2147483678)) 3 (E_a82_0.take 3) h_a82_0)]
set_option maxRecDepth 1000000 in
theorem ck_a82_e : e2_run (e2_cal S_a82 I_a82 4000 2) (e2_fin rs_a82) e2x_59 (e2_bpL cl_a82_e) (e2_cutA cl_a82_e) 4000 (e2_seek e2x_59 0) (e2_al 7 as_a82) [] E_a82 f_a82 = true := by decide +kernel
noncomputable def cl_a82_0 : List (Nat × e2_S) := [(66, e2_cutL (al_a82_0.set 5 (13, 11, 2147483678)) 3 (E_a82_0.take 3) h_a82_0)]
set_option maxRecDepth 1000000 in
theorem ck_a82_0 : e2_runM (e2_cal S_a82 I_a82 4000 2) (e2_fin rs_a82) e2x_59 (e2_bpL cl_a82_0) (e2_cutA cl_a82_0) 4000 (e2_seek e2x_59 66) al_a82_0 [] E_a82_0 h_a82_0 = true := by decide +kernel
set_option maxRecDepth 1000000 in
theorem ci_a82_0 : e2_idl 3 (al_a82_0.set 5 (9, 0, 0)) = true := by decide +kernel
set_option maxRecDepth 1000000 in
theorem cj_a82_0 : e2_idh 3 8 h_a82_0 = true := by decide +kernel
theorem cs_a82 (hen : en_ok) (l : Launch) (hh : e2_hand_a l) : e2_smOk l 154 s_a82 := by
  refine e2_conG (H := 151) (n := 2) (C := evd_59) (S := S_a82) (I := I_a82) (fuel := 4000) hen ei_59 (e2_fa ((cs_a37 hen l hh).mono (by decide)) (e2_fa (cs_a81 hen l hh) e2_fz)) (e2_fa ein_19 (e2_fa ein_20 (e2_fa ein_60 e2_fz))) (by decide) co_a82 fun M d _ hC hcall p e R s m args below meth c Q D cA A ads r0 ha hl0 => ?_
  have L_0 : e2_gdM M p l e R s m args below meth c Q D cA A ads r0 66 al_a82_0 [] E_a82_0 h_a82_0 := by
    refine e2_indL (u := 3) (j := 5) (lo := 2147483648) (hi := 2147483678) (b := 3) (dd := 0) hl0 (by decide) rfl rfl (Or.inr ⟨rfl, rfl⟩) rfl ci_a82_0 cj_a82_0 ?_
    intro r_0 k_0 hk_0 hp_0 hs_0 hn_0
    have hl_0 : r_0.length ≤ 4 := hs_0.len rfl
    have ha_0 := ha.ext hp_0
    exact e2_fromM hen ha_0 hcall (e2_cutA_ok (e2_fa (fun al st E h hc => hn_0 al st E h hc) e2_fz)) (hC []) (X := e2x_59) ex2_59 66 ck_a82_0
  have EN_0 := e2_entL (u := 3) (j := 5) (lo := 2147483648) (hi := 2147483678) hl0 rfl rfl rfl ci_a82_0 cj_a82_0 L_0
  exact e2_from hen ha hcall (e2_cutA_ok (e2_fa (fun al st E h hc => EN_0 al st E h hc) e2_fz)) (hC []) (X := e2x_59) ex2_59 0 ck_a82_e
/-! a83 X3_parseLevel -/
def as_a83 : List ev_V := [(2, 33, 0), (2, 30, 0), (0, 0, 0), (0, 3, 0)]
def E_a83 : e2_E := [(2147483648, 2147583648, 0, 0), (2147483652, 2147483668, 1, 0), (2147483648, 2147485248, 2, 0)]
noncomputable def f_a83 : ev_H := (an591 : e2_Q8)
noncomputable def q_a83_0 : ev_H := (an591 : e2_Q8)
noncomputable def rs_a83 : e2_Rs := [((11, 2147483648, 2147483649), q_a83_0)]
noncomputable def s_a83 : e2_Sm := (59, as_a83, E_a83, f_a83, rs_a83)
noncomputable def S_a83 : List e2_Sm := [s_a37, s_a82]
noncomputable def I_a83 : List e2_In := [(19, 2, e2x_19), (20, 2, e2x_20), (60, 1, e2x_60)]
set_option maxRecDepth 1000000 in
theorem co_a83 : e2_okSB E_a83.length as_a83 f_a83 rs_a83 = true := by decide +kernel
def al_a83_0 : List ev_V := [(2, 33, 0), (2, 30, 0), (0, 0, 0), (0, 3, 0), (0, 30, 0), (1, 3, 4294967296), (9, 0, 0)]
def E_a83_0 : e2_E := [(2147483648, 2147583648, 0, 0), (2147483652, 2147483668, 1, 0), (2147483648, 2147485248, 2, 0), (2147483648, 2147483678, 3, 0)]
noncomputable def h_a83_0 : ev_H := (an591 : e2_Q8)
noncomputable def cl_a83_e : List (Nat × e2_S) := [(66, e2_cutL (al_a83_0.set 5 (11, 2147483648, 2147483678)) 3 (E_a83_0.take 3) h_a83_0)]
set_option maxRecDepth 1000000 in
theorem ck_a83_e : e2_run (e2_cal S_a83 I_a83 4000 2) (e2_fin rs_a83) e2x_59 (e2_bpL cl_a83_e) (e2_cutA cl_a83_e) 4000 (e2_seek e2x_59 0) (e2_al 7 as_a83) [] E_a83 f_a83 = true := by decide +kernel
noncomputable def cl_a83_0 : List (Nat × e2_S) := [(66, e2_cutL (al_a83_0.set 5 (13, 11, 2147483678)) 3 (E_a83_0.take 3) h_a83_0)]
set_option maxRecDepth 1000000 in
theorem ck_a83_0 : e2_runM (e2_cal S_a83 I_a83 4000 2) (e2_fin rs_a83) e2x_59 (e2_bpL cl_a83_0) (e2_cutA cl_a83_0) 4000 (e2_seek e2x_59 66) al_a83_0 [] E_a83_0 h_a83_0 = true := by decide +kernel
set_option maxRecDepth 1000000 in
theorem ci_a83_0 : e2_idl 3 (al_a83_0.set 5 (9, 0, 0)) = true := by decide +kernel
set_option maxRecDepth 1000000 in
theorem cj_a83_0 : e2_idh 3 8 h_a83_0 = true := by decide +kernel
theorem cs_a83 (hen : en_ok) (l : Launch) (hh : e2_hand_a l) : e2_smOk l 157 s_a83 := by
  refine e2_conG (H := 154) (n := 2) (C := evd_59) (S := S_a83) (I := I_a83) (fuel := 4000) hen ei_59 (e2_fa ((cs_a37 hen l hh).mono (by decide)) (e2_fa (cs_a82 hen l hh) e2_fz)) (e2_fa ein_19 (e2_fa ein_20 (e2_fa ein_60 e2_fz))) (by decide) co_a83 fun M d _ hC hcall p e R s m args below meth c Q D cA A ads r0 ha hl0 => ?_
  have L_0 : e2_gdM M p l e R s m args below meth c Q D cA A ads r0 66 al_a83_0 [] E_a83_0 h_a83_0 := by
    refine e2_indL (u := 3) (j := 5) (lo := 2147483648) (hi := 2147483678) (b := 3) (dd := 0) hl0 (by decide) rfl rfl (Or.inr ⟨rfl, rfl⟩) rfl ci_a83_0 cj_a83_0 ?_
    intro r_0 k_0 hk_0 hp_0 hs_0 hn_0
    have hl_0 : r_0.length ≤ 4 := hs_0.len rfl
    have ha_0 := ha.ext hp_0
    exact e2_fromM hen ha_0 hcall (e2_cutA_ok (e2_fa (fun al st E h hc => hn_0 al st E h hc) e2_fz)) (hC []) (X := e2x_59) ex2_59 66 ck_a83_0
  have EN_0 := e2_entL (u := 3) (j := 5) (lo := 2147483648) (hi := 2147483678) hl0 rfl rfl rfl ci_a83_0 cj_a83_0 L_0
  exact e2_from hen ha hcall (e2_cutA_ok (e2_fa (fun al st E h hc => EN_0 al st E h hc) e2_fz)) (hC []) (X := e2x_59) ex2_59 0 ck_a83_e
/-! a84 X3_parseUnit -/
def as_a84 : List ev_V := [(2, 33, 0), (2, 30, 0), (0, 2, 0)]
def E_a84 : e2_E := [(2147483648, 2147583648, 0, 0), (2147483652, 2147483668, 1, 0), (2147483648, 2147485248, 2, 0)]
noncomputable def f_a84 : ev_H := (an591 : e2_Q8)
noncomputable def q_a84_0 : ev_H := (an591 : e2_Q8)
noncomputable def rs_a84 : e2_Rs := [((11, 2147483648, 2147483649), q_a84_0)]
noncomputable def s_a84 : e2_Sm := (62, as_a84, E_a84, f_a84, rs_a84)
noncomputable def S_a84 : List e2_Sm := [s_a37, s_a38, s_a83]
noncomputable def I_a84 : List e2_In := [(18, 2, e2x_18), (19, 2, e2x_19), (20, 2, e2x_20), (43, 2, e2x_43), (44, 3, e2x_44)]
set_option maxRecDepth 1000000 in
theorem ck_a84 : e2_run (e2_cal S_a84 I_a84 4000 2) (e2_fin rs_a84) e2x_62 (fun _ => false) (fun _ _ _ _ _ => false) 4000 (e2_seek e2x_62 0) (e2_al 7 as_a84) [] E_a84 f_a84 = true := by decide +kernel
set_option maxRecDepth 1000000 in
theorem co_a84 : e2_okSB E_a84.length as_a84 f_a84 rs_a84 = true := by decide +kernel
theorem cs_a84 (hen : en_ok) (l : Launch) (hh : e2_hand_a l) : e2_smOk l 160 s_a84 := e2_con0 (H := 157) (n := 2) (C := evd_62) (S := S_a84) (I := I_a84) (fuel := 4000) [] hen ei_62 (e2_fa ((cs_a37 hen l hh).mono (by decide)) (e2_fa ((cs_a38 hen l hh).mono (by decide)) (e2_fa (cs_a83 hen l hh) e2_fz))) (e2_fa ein_18 (e2_fa ein_19 (e2_fa ein_20 (e2_fa ein_43 (e2_fa ein_44 e2_fz))))) (by decide) co_a84 ex2_62 ck_a84
/-! a85 X3_parseLevel -/
def as_a85 : List ev_V := [(2, 33, 0), (2, 30, 0), (0, 5, 0), (0, 2, 0)]
def E_a85 : e2_E := [(2147483648, 2147583648, 0, 0), (2147483652, 2147483668, 1, 0), (2147483648, 2147485248, 2, 0)]
noncomputable def f_a85 : ev_H := (an591 : e2_Q8)
noncomputable def q_a85_0 : ev_H := (an591 : e2_Q8)
noncomputable def rs_a85 : e2_Rs := [((11, 2147483648, 2147483649), q_a85_0)]
noncomputable def s_a85 : e2_Sm := (59, as_a85, E_a85, f_a85, rs_a85)
noncomputable def S_a85 : List e2_Sm := [s_a84]
noncomputable def I_a85 : List e2_In := []
set_option maxRecDepth 1000000 in
theorem ck_a85 : e2_run (e2_cal S_a85 I_a85 4000 0) (e2_fin rs_a85) e2x_59 (fun _ => false) (fun _ _ _ _ _ => false) 4000 (e2_seek e2x_59 0) (e2_al 7 as_a85) [] E_a85 f_a85 = true := by decide +kernel
set_option maxRecDepth 1000000 in
theorem co_a85 : e2_okSB E_a85.length as_a85 f_a85 rs_a85 = true := by decide +kernel
theorem cs_a85 (hen : en_ok) (l : Launch) (hh : e2_hand_a l) : e2_smOk l 161 s_a85 := e2_con0 (H := 160) (n := 0) (C := evd_59) (S := S_a85) (I := I_a85) (fuel := 4000) [] hen ei_59 (e2_fa (cs_a84 hen l hh) e2_fz) e2_fz (by decide) co_a85 ex2_59 ck_a85
/-! a86 X3_parseLevel -/
def as_a86 : List ev_V := [(2, 33, 0), (2, 30, 0), (0, 4, 0), (0, 2, 0)]
def E_a86 : e2_E := [(2147483648, 2147583648, 0, 0), (2147483652, 2147483668, 1, 0), (2147483648, 2147485248, 2, 0)]
noncomputable def f_a86 : ev_H := (an591 : e2_Q8)
noncomputable def q_a86_0 : ev_H := (an591 : e2_Q8)
noncomputable def rs_a86 : e2_Rs := [((11, 2147483648, 2147483649), q_a86_0)]
noncomputable def s_a86 : e2_Sm := (59, as_a86, E_a86, f_a86, rs_a86)
noncomputable def S_a86 : List e2_Sm := [s_a37, s_a85]
noncomputable def I_a86 : List e2_In := [(19, 2, e2x_19), (20, 2, e2x_20), (60, 1, e2x_60)]
set_option maxRecDepth 1000000 in
theorem co_a86 : e2_okSB E_a86.length as_a86 f_a86 rs_a86 = true := by decide +kernel
def al_a86_0 : List ev_V := [(2, 33, 0), (2, 30, 0), (0, 4, 0), (0, 2, 0), (0, 30, 0), (1, 3, 4294967296), (9, 0, 0)]
def E_a86_0 : e2_E := [(2147483648, 2147583648, 0, 0), (2147483652, 2147483668, 1, 0), (2147483648, 2147485248, 2, 0), (2147483648, 2147483678, 3, 0)]
noncomputable def h_a86_0 : ev_H := (an591 : e2_Q8)
noncomputable def cl_a86_e : List (Nat × e2_S) := [(66, e2_cutL (al_a86_0.set 5 (11, 2147483648, 2147483678)) 3 (E_a86_0.take 3) h_a86_0)]
set_option maxRecDepth 1000000 in
theorem ck_a86_e : e2_run (e2_cal S_a86 I_a86 4000 2) (e2_fin rs_a86) e2x_59 (e2_bpL cl_a86_e) (e2_cutA cl_a86_e) 4000 (e2_seek e2x_59 0) (e2_al 7 as_a86) [] E_a86 f_a86 = true := by decide +kernel
noncomputable def cl_a86_0 : List (Nat × e2_S) := [(66, e2_cutL (al_a86_0.set 5 (13, 11, 2147483678)) 3 (E_a86_0.take 3) h_a86_0)]
set_option maxRecDepth 1000000 in
theorem ck_a86_0 : e2_runM (e2_cal S_a86 I_a86 4000 2) (e2_fin rs_a86) e2x_59 (e2_bpL cl_a86_0) (e2_cutA cl_a86_0) 4000 (e2_seek e2x_59 66) al_a86_0 [] E_a86_0 h_a86_0 = true := by decide +kernel
set_option maxRecDepth 1000000 in
theorem ci_a86_0 : e2_idl 3 (al_a86_0.set 5 (9, 0, 0)) = true := by decide +kernel
set_option maxRecDepth 1000000 in
theorem cj_a86_0 : e2_idh 3 8 h_a86_0 = true := by decide +kernel
theorem cs_a86 (hen : en_ok) (l : Launch) (hh : e2_hand_a l) : e2_smOk l 164 s_a86 := by
  refine e2_conG (H := 161) (n := 2) (C := evd_59) (S := S_a86) (I := I_a86) (fuel := 4000) hen ei_59 (e2_fa ((cs_a37 hen l hh).mono (by decide)) (e2_fa (cs_a85 hen l hh) e2_fz)) (e2_fa ein_19 (e2_fa ein_20 (e2_fa ein_60 e2_fz))) (by decide) co_a86 fun M d _ hC hcall p e R s m args below meth c Q D cA A ads r0 ha hl0 => ?_
  have L_0 : e2_gdM M p l e R s m args below meth c Q D cA A ads r0 66 al_a86_0 [] E_a86_0 h_a86_0 := by
    refine e2_indL (u := 3) (j := 5) (lo := 2147483648) (hi := 2147483678) (b := 3) (dd := 0) hl0 (by decide) rfl rfl (Or.inr ⟨rfl, rfl⟩) rfl ci_a86_0 cj_a86_0 ?_
    intro r_0 k_0 hk_0 hp_0 hs_0 hn_0
    have hl_0 : r_0.length ≤ 4 := hs_0.len rfl
    have ha_0 := ha.ext hp_0
    exact e2_fromM hen ha_0 hcall (e2_cutA_ok (e2_fa (fun al st E h hc => hn_0 al st E h hc) e2_fz)) (hC []) (X := e2x_59) ex2_59 66 ck_a86_0
  have EN_0 := e2_entL (u := 3) (j := 5) (lo := 2147483648) (hi := 2147483678) hl0 rfl rfl rfl ci_a86_0 cj_a86_0 L_0
  exact e2_from hen ha hcall (e2_cutA_ok (e2_fa (fun al st E h hc => EN_0 al st E h hc) e2_fz)) (hC []) (X := e2x_59) ex2_59 0 ck_a86_e
/-! a87 X3_parseLevel -/
def as_a87 : List ev_V := [(2, 33, 0), (2, 30, 0), (0, 3, 0), (0, 2, 0)]
def E_a87 : e2_E := [(2147483648, 2147583648, 0, 0), (2147483652, 2147483668, 1, 0), (2147483648, 2147485248, 2, 0)]
noncomputable def f_a87 : ev_H := (an591 : e2_Q8)
noncomputable def q_a87_0 : ev_H := (an591 : e2_Q8)
noncomputable def rs_a87 : e2_Rs := [((11, 2147483648, 2147483649), q_a87_0)]
noncomputable def s_a87 : e2_Sm := (59, as_a87, E_a87, f_a87, rs_a87)
noncomputable def S_a87 : List e2_Sm := [s_a37, s_a86]
noncomputable def I_a87 : List e2_In := [(19, 2, e2x_19), (20, 2, e2x_20), (60, 1, e2x_60)]
set_option maxRecDepth 1000000 in
theorem co_a87 : e2_okSB E_a87.length as_a87 f_a87 rs_a87 = true := by decide +kernel
def al_a87_0 : List ev_V := [(2, 33, 0), (2, 30, 0), (0, 3, 0), (0, 2, 0), (0, 30, 0), (1, 3, 4294967296), (9, 0, 0)]
def E_a87_0 : e2_E := [(2147483648, 2147583648, 0, 0), (2147483652, 2147483668, 1, 0), (2147483648, 2147485248, 2, 0), (2147483648, 2147483678, 3, 0)]
noncomputable def h_a87_0 : ev_H := (an591 : e2_Q8)
noncomputable def cl_a87_e : List (Nat × e2_S) := [(66, e2_cutL (al_a87_0.set 5 (11, 2147483648, 2147483678)) 3 (E_a87_0.take 3) h_a87_0)]
set_option maxRecDepth 1000000 in
theorem ck_a87_e : e2_run (e2_cal S_a87 I_a87 4000 2) (e2_fin rs_a87) e2x_59 (e2_bpL cl_a87_e) (e2_cutA cl_a87_e) 4000 (e2_seek e2x_59 0) (e2_al 7 as_a87) [] E_a87 f_a87 = true := by decide +kernel
noncomputable def cl_a87_0 : List (Nat × e2_S) := [(66, e2_cutL (al_a87_0.set 5 (13, 11, 2147483678)) 3 (E_a87_0.take 3) h_a87_0)]
set_option maxRecDepth 1000000 in
theorem ck_a87_0 : e2_runM (e2_cal S_a87 I_a87 4000 2) (e2_fin rs_a87) e2x_59 (e2_bpL cl_a87_0) (e2_cutA cl_a87_0) 4000 (e2_seek e2x_59 66) al_a87_0 [] E_a87_0 h_a87_0 = true := by decide +kernel
set_option maxRecDepth 1000000 in
theorem ci_a87_0 : e2_idl 3 (al_a87_0.set 5 (9, 0, 0)) = true := by decide +kernel
set_option maxRecDepth 1000000 in
theorem cj_a87_0 : e2_idh 3 8 h_a87_0 = true := by decide +kernel
theorem cs_a87 (hen : en_ok) (l : Launch) (hh : e2_hand_a l) : e2_smOk l 167 s_a87 := by
  refine e2_conG (H := 164) (n := 2) (C := evd_59) (S := S_a87) (I := I_a87) (fuel := 4000) hen ei_59 (e2_fa ((cs_a37 hen l hh).mono (by decide)) (e2_fa (cs_a86 hen l hh) e2_fz)) (e2_fa ein_19 (e2_fa ein_20 (e2_fa ein_60 e2_fz))) (by decide) co_a87 fun M d _ hC hcall p e R s m args below meth c Q D cA A ads r0 ha hl0 => ?_
  have L_0 : e2_gdM M p l e R s m args below meth c Q D cA A ads r0 66 al_a87_0 [] E_a87_0 h_a87_0 := by
    refine e2_indL (u := 3) (j := 5) (lo := 2147483648) (hi := 2147483678) (b := 3) (dd := 0) hl0 (by decide) rfl rfl (Or.inr ⟨rfl, rfl⟩) rfl ci_a87_0 cj_a87_0 ?_
    intro r_0 k_0 hk_0 hp_0 hs_0 hn_0
    have hl_0 : r_0.length ≤ 4 := hs_0.len rfl
    have ha_0 := ha.ext hp_0
    exact e2_fromM hen ha_0 hcall (e2_cutA_ok (e2_fa (fun al st E h hc => hn_0 al st E h hc) e2_fz)) (hC []) (X := e2x_59) ex2_59 66 ck_a87_0
  have EN_0 := e2_entL (u := 3) (j := 5) (lo := 2147483648) (hi := 2147483678) hl0 rfl rfl rfl ci_a87_0 cj_a87_0 L_0
  exact e2_from hen ha hcall (e2_cutA_ok (e2_fa (fun al st E h hc => EN_0 al st E h hc) e2_fz)) (hC []) (X := e2x_59) ex2_59 0 ck_a87_e
/-! a88 X3_parseNot -/
def as_a88 : List ev_V := [(2, 33, 0), (2, 30, 0), (0, 2, 0)]
def E_a88 : e2_E := [(2147483648, 2147583648, 0, 0), (2147483652, 2147483668, 1, 0), (2147483648, 2147485248, 2, 0)]
noncomputable def f_a88 : ev_H := (an591 : e2_Q8)
noncomputable def q_a88_0 : ev_H := (an591 : e2_Q8)
noncomputable def rs_a88 : e2_Rs := [((11, 2147483648, 2147483649), q_a88_0)]
noncomputable def s_a88 : e2_Sm := (61, as_a88, E_a88, f_a88, rs_a88)
noncomputable def S_a88 : List e2_Sm := [s_a37, s_a81]
noncomputable def I_a88 : List e2_In := [(19, 2, e2x_19), (20, 2, e2x_20)]
set_option maxRecDepth 1000000 in
theorem ck_a88 : e2_run (e2_cal S_a88 I_a88 4000 2) (e2_fin rs_a88) e2x_61 (fun _ => false) (fun _ _ _ _ _ => false) 4000 (e2_seek e2x_61 0) (e2_al 3 as_a88) [] E_a88 f_a88 = true := by decide +kernel
set_option maxRecDepth 1000000 in
theorem co_a88 : e2_okSB E_a88.length as_a88 f_a88 rs_a88 = true := by decide +kernel
theorem cs_a88 (hen : en_ok) (l : Launch) (hh : e2_hand_a l) : e2_smOk l 154 s_a88 := e2_con0 (H := 151) (n := 2) (C := evd_61) (S := S_a88) (I := I_a88) (fuel := 4000) [] hen ei_61 (e2_fa ((cs_a37 hen l hh).mono (by decide)) (e2_fa (cs_a81 hen l hh) e2_fz)) (e2_fa ein_19 (e2_fa ein_20 e2_fz)) (by decide) co_a88 ex2_61 ck_a88
/-! a89 X3_parseLevel -/
def as_a89 : List ev_V := [(2, 33, 0), (2, 30, 0), (0, 2, 0), (0, 2, 0)]
def E_a89 : e2_E := [(2147483648, 2147583648, 0, 0), (2147483652, 2147483668, 1, 0), (2147483648, 2147485248, 2, 0)]
noncomputable def f_a89 : ev_H := (an591 : e2_Q8)
noncomputable def q_a89_0 : ev_H := (an591 : e2_Q8)
noncomputable def rs_a89 : e2_Rs := [((11, 2147483648, 2147483649), q_a89_0)]
noncomputable def s_a89 : e2_Sm := (59, as_a89, E_a89, f_a89, rs_a89)
noncomputable def S_a89 : List e2_Sm := [s_a37, s_a87, s_a88]
noncomputable def I_a89 : List e2_In := [(19, 2, e2x_19), (20, 2, e2x_20), (60, 1, e2x_60)]
set_option maxRecDepth 1000000 in
theorem co_a89 : e2_okSB E_a89.length as_a89 f_a89 rs_a89 = true := by decide +kernel
def al_a89_0 : List ev_V := [(2, 33, 0), (2, 30, 0), (0, 2, 0), (0, 2, 0), (0, 1, 0), (1, 3, 4294967296), (9, 0, 0)]
def E_a89_0 : e2_E := [(2147483648, 2147583648, 0, 0), (2147483652, 2147483668, 1, 0), (2147483648, 2147485248, 2, 0), (2147483648, 2147483649, 3, 0)]
noncomputable def h_a89_0 : ev_H := (an591 : e2_Q8)
noncomputable def cl_a89_e : List (Nat × e2_S) := [(66, e2_cutL (al_a89_0.set 5 (11, 2147483648, 2147483649)) 3 (E_a89_0.take 3) h_a89_0)]
set_option maxRecDepth 1000000 in
theorem ck_a89_e : e2_run (e2_cal S_a89 I_a89 4000 2) (e2_fin rs_a89) e2x_59 (e2_bpL cl_a89_e) (e2_cutA cl_a89_e) 4000 (e2_seek e2x_59 0) (e2_al 7 as_a89) [] E_a89 f_a89 = true := by decide +kernel
noncomputable def cl_a89_0 : List (Nat × e2_S) := [(66, e2_cutL (al_a89_0.set 5 (13, 11, 2147483649)) 3 (E_a89_0.take 3) h_a89_0)]
set_option maxRecDepth 1000000 in
theorem ck_a89_0 : e2_runM (e2_cal S_a89 I_a89 4000 2) (e2_fin rs_a89) e2x_59 (e2_bpL cl_a89_0) (e2_cutA cl_a89_0) 4000 (e2_seek e2x_59 66) al_a89_0 [] E_a89_0 h_a89_0 = true := by decide +kernel
set_option maxRecDepth 1000000 in
theorem ci_a89_0 : e2_idl 3 (al_a89_0.set 5 (9, 0, 0)) = true := by decide +kernel
set_option maxRecDepth 1000000 in
theorem cj_a89_0 : e2_idh 3 8 h_a89_0 = true := by decide +kernel
theorem cs_a89 (hen : en_ok) (l : Launch) (hh : e2_hand_a l) : e2_smOk l 170 s_a89 := by
  refine e2_conG (H := 167) (n := 2) (C := evd_59) (S := S_a89) (I := I_a89) (fuel := 4000) hen ei_59 (e2_fa ((cs_a37 hen l hh).mono (by decide)) (e2_fa (cs_a87 hen l hh) (e2_fa ((cs_a88 hen l hh).mono (by decide)) e2_fz))) (e2_fa ein_19 (e2_fa ein_20 (e2_fa ein_60 e2_fz))) (by decide) co_a89 fun M d _ hC hcall p e R s m args below meth c Q D cA A ads r0 ha hl0 => ?_
  have L_0 : e2_gdM M p l e R s m args below meth c Q D cA A ads r0 66 al_a89_0 [] E_a89_0 h_a89_0 := by
    refine e2_indL (u := 3) (j := 5) (lo := 2147483648) (hi := 2147483649) (b := 3) (dd := 0) hl0 (by decide) rfl rfl (Or.inr ⟨rfl, rfl⟩) rfl ci_a89_0 cj_a89_0 ?_
    intro r_0 k_0 hk_0 hp_0 hs_0 hn_0
    have hl_0 : r_0.length ≤ 4 := hs_0.len rfl
    have ha_0 := ha.ext hp_0
    exact e2_fromM hen ha_0 hcall (e2_cutA_ok (e2_fa (fun al st E h hc => hn_0 al st E h hc) e2_fz)) (hC []) (X := e2x_59) ex2_59 66 ck_a89_0
  have EN_0 := e2_entL (u := 3) (j := 5) (lo := 2147483648) (hi := 2147483649) hl0 rfl rfl rfl ci_a89_0 cj_a89_0 L_0
  exact e2_from hen ha hcall (e2_cutA_ok (e2_fa (fun al st E h hc => EN_0 al st E h hc) e2_fz)) (hC []) (X := e2x_59) ex2_59 0 ck_a89_e
/-! a90 X3_parseLevel -/
def as_a90 : List ev_V := [(2, 33, 0), (2, 30, 0), (0, 1, 0), (0, 2, 0)]
def E_a90 : e2_E := [(2147483648, 2147583648, 0, 0), (2147483652, 2147483668, 1, 0), (2147483648, 2147485248, 2, 0)]
noncomputable def f_a90 : ev_H := (an591 : e2_Q8)
noncomputable def q_a90_0 : ev_H := (an591 : e2_Q8)
noncomputable def rs_a90 : e2_Rs := [((11, 2147483648, 2147483649), q_a90_0)]
noncomputable def s_a90 : e2_Sm := (59, as_a90, E_a90, f_a90, rs_a90)
noncomputable def S_a90 : List e2_Sm := [s_a37, s_a89]
noncomputable def I_a90 : List e2_In := [(19, 2, e2x_19), (20, 2, e2x_20), (60, 1, e2x_60)]
set_option maxRecDepth 1000000 in
theorem co_a90 : e2_okSB E_a90.length as_a90 f_a90 rs_a90 = true := by decide +kernel
def al_a90_0 : List ev_V := [(2, 33, 0), (2, 30, 0), (0, 1, 0), (0, 2, 0), (0, 30, 0), (1, 3, 4294967296), (9, 0, 0)]
def E_a90_0 : e2_E := [(2147483648, 2147583648, 0, 0), (2147483652, 2147483668, 1, 0), (2147483648, 2147485248, 2, 0), (2147483648, 2147483678, 3, 0)]
noncomputable def h_a90_0 : ev_H := (an591 : e2_Q8)
noncomputable def cl_a90_e : List (Nat × e2_S) := [(66, e2_cutL (al_a90_0.set 5 (11, 2147483648, 2147483678)) 3 (E_a90_0.take 3) h_a90_0)]
set_option maxRecDepth 1000000 in
theorem ck_a90_e : e2_run (e2_cal S_a90 I_a90 4000 2) (e2_fin rs_a90) e2x_59 (e2_bpL cl_a90_e) (e2_cutA cl_a90_e) 4000 (e2_seek e2x_59 0) (e2_al 7 as_a90) [] E_a90 f_a90 = true := by decide +kernel
noncomputable def cl_a90_0 : List (Nat × e2_S) := [(66, e2_cutL (al_a90_0.set 5 (13, 11, 2147483678)) 3 (E_a90_0.take 3) h_a90_0)]
set_option maxRecDepth 1000000 in
theorem ck_a90_0 : e2_runM (e2_cal S_a90 I_a90 4000 2) (e2_fin rs_a90) e2x_59 (e2_bpL cl_a90_0) (e2_cutA cl_a90_0) 4000 (e2_seek e2x_59 66) al_a90_0 [] E_a90_0 h_a90_0 = true := by decide +kernel
set_option maxRecDepth 1000000 in
theorem ci_a90_0 : e2_idl 3 (al_a90_0.set 5 (9, 0, 0)) = true := by decide +kernel
set_option maxRecDepth 1000000 in
theorem cj_a90_0 : e2_idh 3 8 h_a90_0 = true := by decide +kernel
theorem cs_a90 (hen : en_ok) (l : Launch) (hh : e2_hand_a l) : e2_smOk l 173 s_a90 := by
  refine e2_conG (H := 170) (n := 2) (C := evd_59) (S := S_a90) (I := I_a90) (fuel := 4000) hen ei_59 (e2_fa ((cs_a37 hen l hh).mono (by decide)) (e2_fa (cs_a89 hen l hh) e2_fz)) (e2_fa ein_19 (e2_fa ein_20 (e2_fa ein_60 e2_fz))) (by decide) co_a90 fun M d _ hC hcall p e R s m args below meth c Q D cA A ads r0 ha hl0 => ?_
  have L_0 : e2_gdM M p l e R s m args below meth c Q D cA A ads r0 66 al_a90_0 [] E_a90_0 h_a90_0 := by
    refine e2_indL (u := 3) (j := 5) (lo := 2147483648) (hi := 2147483678) (b := 3) (dd := 0) hl0 (by decide) rfl rfl (Or.inr ⟨rfl, rfl⟩) rfl ci_a90_0 cj_a90_0 ?_
    intro r_0 k_0 hk_0 hp_0 hs_0 hn_0
    have hl_0 : r_0.length ≤ 4 := hs_0.len rfl
    have ha_0 := ha.ext hp_0
    exact e2_fromM hen ha_0 hcall (e2_cutA_ok (e2_fa (fun al st E h hc => hn_0 al st E h hc) e2_fz)) (hC []) (X := e2x_59) ex2_59 66 ck_a90_0
  have EN_0 := e2_entL (u := 3) (j := 5) (lo := 2147483648) (hi := 2147483678) hl0 rfl rfl rfl ci_a90_0 cj_a90_0 L_0
  exact e2_from hen ha hcall (e2_cutA_ok (e2_fa (fun al st E h hc => EN_0 al st E h hc) e2_fz)) (hC []) (X := e2x_59) ex2_59 0 ck_a90_e
/-! a91 X3_parseLevel -/
def as_a91 : List ev_V := [(2, 33, 0), (2, 30, 0), (0, 0, 0), (0, 2, 0)]
def E_a91 : e2_E := [(2147483648, 2147583648, 0, 0), (2147483652, 2147483668, 1, 0), (2147483648, 2147485248, 2, 0)]
noncomputable def f_a91 : ev_H := (an591 : e2_Q8)
noncomputable def q_a91_0 : ev_H := (an591 : e2_Q8)
noncomputable def rs_a91 : e2_Rs := [((11, 2147483648, 2147483649), q_a91_0)]
noncomputable def s_a91 : e2_Sm := (59, as_a91, E_a91, f_a91, rs_a91)
noncomputable def S_a91 : List e2_Sm := [s_a37, s_a90]
noncomputable def I_a91 : List e2_In := [(19, 2, e2x_19), (20, 2, e2x_20), (60, 1, e2x_60)]
set_option maxRecDepth 1000000 in
theorem co_a91 : e2_okSB E_a91.length as_a91 f_a91 rs_a91 = true := by decide +kernel
def al_a91_0 : List ev_V := [(2, 33, 0), (2, 30, 0), (0, 0, 0), (0, 2, 0), (0, 30, 0), (1, 3, 4294967296), (9, 0, 0)]
def E_a91_0 : e2_E := [(2147483648, 2147583648, 0, 0), (2147483652, 2147483668, 1, 0), (2147483648, 2147485248, 2, 0), (2147483648, 2147483678, 3, 0)]
noncomputable def h_a91_0 : ev_H := (an591 : e2_Q8)
noncomputable def cl_a91_e : List (Nat × e2_S) := [(66, e2_cutL (al_a91_0.set 5 (11, 2147483648, 2147483678)) 3 (E_a91_0.take 3) h_a91_0)]
set_option maxRecDepth 1000000 in
theorem ck_a91_e : e2_run (e2_cal S_a91 I_a91 4000 2) (e2_fin rs_a91) e2x_59 (e2_bpL cl_a91_e) (e2_cutA cl_a91_e) 4000 (e2_seek e2x_59 0) (e2_al 7 as_a91) [] E_a91 f_a91 = true := by decide +kernel
noncomputable def cl_a91_0 : List (Nat × e2_S) := [(66, e2_cutL (al_a91_0.set 5 (13, 11, 2147483678)) 3 (E_a91_0.take 3) h_a91_0)]
set_option maxRecDepth 1000000 in
theorem ck_a91_0 : e2_runM (e2_cal S_a91 I_a91 4000 2) (e2_fin rs_a91) e2x_59 (e2_bpL cl_a91_0) (e2_cutA cl_a91_0) 4000 (e2_seek e2x_59 66) al_a91_0 [] E_a91_0 h_a91_0 = true := by decide +kernel
set_option maxRecDepth 1000000 in
theorem ci_a91_0 : e2_idl 3 (al_a91_0.set 5 (9, 0, 0)) = true := by decide +kernel
set_option maxRecDepth 1000000 in
theorem cj_a91_0 : e2_idh 3 8 h_a91_0 = true := by decide +kernel
theorem cs_a91 (hen : en_ok) (l : Launch) (hh : e2_hand_a l) : e2_smOk l 176 s_a91 := by
  refine e2_conG (H := 173) (n := 2) (C := evd_59) (S := S_a91) (I := I_a91) (fuel := 4000) hen ei_59 (e2_fa ((cs_a37 hen l hh).mono (by decide)) (e2_fa (cs_a90 hen l hh) e2_fz)) (e2_fa ein_19 (e2_fa ein_20 (e2_fa ein_60 e2_fz))) (by decide) co_a91 fun M d _ hC hcall p e R s m args below meth c Q D cA A ads r0 ha hl0 => ?_
  have L_0 : e2_gdM M p l e R s m args below meth c Q D cA A ads r0 66 al_a91_0 [] E_a91_0 h_a91_0 := by
    refine e2_indL (u := 3) (j := 5) (lo := 2147483648) (hi := 2147483678) (b := 3) (dd := 0) hl0 (by decide) rfl rfl (Or.inr ⟨rfl, rfl⟩) rfl ci_a91_0 cj_a91_0 ?_
    intro r_0 k_0 hk_0 hp_0 hs_0 hn_0
    have hl_0 : r_0.length ≤ 4 := hs_0.len rfl
    have ha_0 := ha.ext hp_0
    exact e2_fromM hen ha_0 hcall (e2_cutA_ok (e2_fa (fun al st E h hc => hn_0 al st E h hc) e2_fz)) (hC []) (X := e2x_59) ex2_59 66 ck_a91_0
  have EN_0 := e2_entL (u := 3) (j := 5) (lo := 2147483648) (hi := 2147483678) hl0 rfl rfl rfl ci_a91_0 cj_a91_0 L_0
  exact e2_from hen ha hcall (e2_cutA_ok (e2_fa (fun al st E h hc => EN_0 al st E h hc) e2_fz)) (hC []) (X := e2x_59) ex2_59 0 ck_a91_e
/-! a92 X3_parseUnit -/
def as_a92 : List ev_V := [(2, 33, 0), (2, 30, 0), (0, 1, 0)]
def E_a92 : e2_E := [(2147483648, 2147583648, 0, 0), (2147483652, 2147483668, 1, 0), (2147483648, 2147485248, 2, 0)]
noncomputable def f_a92 : ev_H := (an591 : e2_Q8)
noncomputable def q_a92_0 : ev_H := (an591 : e2_Q8)
noncomputable def rs_a92 : e2_Rs := [((11, 2147483648, 2147483649), q_a92_0)]
noncomputable def s_a92 : e2_Sm := (62, as_a92, E_a92, f_a92, rs_a92)
noncomputable def S_a92 : List e2_Sm := [s_a37, s_a38, s_a91]
noncomputable def I_a92 : List e2_In := [(18, 2, e2x_18), (19, 2, e2x_19), (20, 2, e2x_20), (43, 2, e2x_43), (44, 3, e2x_44)]
set_option maxRecDepth 1000000 in
theorem ck_a92 : e2_run (e2_cal S_a92 I_a92 4000 2) (e2_fin rs_a92) e2x_62 (fun _ => false) (fun _ _ _ _ _ => false) 4000 (e2_seek e2x_62 0) (e2_al 7 as_a92) [] E_a92 f_a92 = true := by decide +kernel
set_option maxRecDepth 1000000 in
theorem co_a92 : e2_okSB E_a92.length as_a92 f_a92 rs_a92 = true := by decide +kernel
theorem cs_a92 (hen : en_ok) (l : Launch) (hh : e2_hand_a l) : e2_smOk l 179 s_a92 := e2_con0 (H := 176) (n := 2) (C := evd_62) (S := S_a92) (I := I_a92) (fuel := 4000) [] hen ei_62 (e2_fa ((cs_a37 hen l hh).mono (by decide)) (e2_fa ((cs_a38 hen l hh).mono (by decide)) (e2_fa (cs_a91 hen l hh) e2_fz))) (e2_fa ein_18 (e2_fa ein_19 (e2_fa ein_20 (e2_fa ein_43 (e2_fa ein_44 e2_fz))))) (by decide) co_a92 ex2_62 ck_a92
/-! a93 X3_parseLevel -/
def as_a93 : List ev_V := [(2, 33, 0), (2, 30, 0), (0, 5, 0), (0, 1, 0)]
def E_a93 : e2_E := [(2147483648, 2147583648, 0, 0), (2147483652, 2147483668, 1, 0), (2147483648, 2147485248, 2, 0)]
noncomputable def f_a93 : ev_H := (an591 : e2_Q8)
noncomputable def q_a93_0 : ev_H := (an591 : e2_Q8)
noncomputable def rs_a93 : e2_Rs := [((11, 2147483648, 2147483649), q_a93_0)]
noncomputable def s_a93 : e2_Sm := (59, as_a93, E_a93, f_a93, rs_a93)
noncomputable def S_a93 : List e2_Sm := [s_a92]
noncomputable def I_a93 : List e2_In := []
set_option maxRecDepth 1000000 in
theorem ck_a93 : e2_run (e2_cal S_a93 I_a93 4000 0) (e2_fin rs_a93) e2x_59 (fun _ => false) (fun _ _ _ _ _ => false) 4000 (e2_seek e2x_59 0) (e2_al 7 as_a93) [] E_a93 f_a93 = true := by decide +kernel
set_option maxRecDepth 1000000 in
theorem co_a93 : e2_okSB E_a93.length as_a93 f_a93 rs_a93 = true := by decide +kernel
theorem cs_a93 (hen : en_ok) (l : Launch) (hh : e2_hand_a l) : e2_smOk l 180 s_a93 := e2_con0 (H := 179) (n := 0) (C := evd_59) (S := S_a93) (I := I_a93) (fuel := 4000) [] hen ei_59 (e2_fa (cs_a92 hen l hh) e2_fz) e2_fz (by decide) co_a93 ex2_59 ck_a93
/-! a94 X3_parseLevel -/
def as_a94 : List ev_V := [(2, 33, 0), (2, 30, 0), (0, 4, 0), (0, 1, 0)]
def E_a94 : e2_E := [(2147483648, 2147583648, 0, 0), (2147483652, 2147483668, 1, 0), (2147483648, 2147485248, 2, 0)]
noncomputable def f_a94 : ev_H := (an591 : e2_Q8)
noncomputable def q_a94_0 : ev_H := (an591 : e2_Q8)
noncomputable def rs_a94 : e2_Rs := [((11, 2147483648, 2147483649), q_a94_0)]
noncomputable def s_a94 : e2_Sm := (59, as_a94, E_a94, f_a94, rs_a94)
noncomputable def S_a94 : List e2_Sm := [s_a37, s_a93]
noncomputable def I_a94 : List e2_In := [(19, 2, e2x_19), (20, 2, e2x_20), (60, 1, e2x_60)]
set_option maxRecDepth 1000000 in
theorem co_a94 : e2_okSB E_a94.length as_a94 f_a94 rs_a94 = true := by decide +kernel
def al_a94_0 : List ev_V := [(2, 33, 0), (2, 30, 0), (0, 4, 0), (0, 1, 0), (0, 30, 0), (1, 3, 4294967296), (9, 0, 0)]
def E_a94_0 : e2_E := [(2147483648, 2147583648, 0, 0), (2147483652, 2147483668, 1, 0), (2147483648, 2147485248, 2, 0), (2147483648, 2147483678, 3, 0)]
noncomputable def h_a94_0 : ev_H := (an591 : e2_Q8)
noncomputable def cl_a94_e : List (Nat × e2_S) := [(66, e2_cutL (al_a94_0.set 5 (11, 2147483648, 2147483678)) 3 (E_a94_0.take 3) h_a94_0)]
set_option maxRecDepth 1000000 in
theorem ck_a94_e : e2_run (e2_cal S_a94 I_a94 4000 2) (e2_fin rs_a94) e2x_59 (e2_bpL cl_a94_e) (e2_cutA cl_a94_e) 4000 (e2_seek e2x_59 0) (e2_al 7 as_a94) [] E_a94 f_a94 = true := by decide +kernel
noncomputable def cl_a94_0 : List (Nat × e2_S) := [(66, e2_cutL (al_a94_0.set 5 (13, 11, 2147483678)) 3 (E_a94_0.take 3) h_a94_0)]
set_option maxRecDepth 1000000 in
theorem ck_a94_0 : e2_runM (e2_cal S_a94 I_a94 4000 2) (e2_fin rs_a94) e2x_59 (e2_bpL cl_a94_0) (e2_cutA cl_a94_0) 4000 (e2_seek e2x_59 66) al_a94_0 [] E_a94_0 h_a94_0 = true := by decide +kernel
set_option maxRecDepth 1000000 in
theorem ci_a94_0 : e2_idl 3 (al_a94_0.set 5 (9, 0, 0)) = true := by decide +kernel
set_option maxRecDepth 1000000 in
theorem cj_a94_0 : e2_idh 3 8 h_a94_0 = true := by decide +kernel
theorem cs_a94 (hen : en_ok) (l : Launch) (hh : e2_hand_a l) : e2_smOk l 183 s_a94 := by
  refine e2_conG (H := 180) (n := 2) (C := evd_59) (S := S_a94) (I := I_a94) (fuel := 4000) hen ei_59 (e2_fa ((cs_a37 hen l hh).mono (by decide)) (e2_fa (cs_a93 hen l hh) e2_fz)) (e2_fa ein_19 (e2_fa ein_20 (e2_fa ein_60 e2_fz))) (by decide) co_a94 fun M d _ hC hcall p e R s m args below meth c Q D cA A ads r0 ha hl0 => ?_
  have L_0 : e2_gdM M p l e R s m args below meth c Q D cA A ads r0 66 al_a94_0 [] E_a94_0 h_a94_0 := by
    refine e2_indL (u := 3) (j := 5) (lo := 2147483648) (hi := 2147483678) (b := 3) (dd := 0) hl0 (by decide) rfl rfl (Or.inr ⟨rfl, rfl⟩) rfl ci_a94_0 cj_a94_0 ?_
    intro r_0 k_0 hk_0 hp_0 hs_0 hn_0
    have hl_0 : r_0.length ≤ 4 := hs_0.len rfl
    have ha_0 := ha.ext hp_0
    exact e2_fromM hen ha_0 hcall (e2_cutA_ok (e2_fa (fun al st E h hc => hn_0 al st E h hc) e2_fz)) (hC []) (X := e2x_59) ex2_59 66 ck_a94_0
  have EN_0 := e2_entL (u := 3) (j := 5) (lo := 2147483648) (hi := 2147483678) hl0 rfl rfl rfl ci_a94_0 cj_a94_0 L_0
  exact e2_from hen ha hcall (e2_cutA_ok (e2_fa (fun al st E h hc => EN_0 al st E h hc) e2_fz)) (hC []) (X := e2x_59) ex2_59 0 ck_a94_e
/-! a95 X3_parseLevel -/
def as_a95 : List ev_V := [(2, 33, 0), (2, 30, 0), (0, 3, 0), (0, 1, 0)]
def E_a95 : e2_E := [(2147483648, 2147583648, 0, 0), (2147483652, 2147483668, 1, 0), (2147483648, 2147485248, 2, 0)]
noncomputable def f_a95 : ev_H := (an591 : e2_Q8)
noncomputable def q_a95_0 : ev_H := (an591 : e2_Q8)
noncomputable def rs_a95 : e2_Rs := [((11, 2147483648, 2147483649), q_a95_0)]
noncomputable def s_a95 : e2_Sm := (59, as_a95, E_a95, f_a95, rs_a95)
noncomputable def S_a95 : List e2_Sm := [s_a37, s_a94]
noncomputable def I_a95 : List e2_In := [(19, 2, e2x_19), (20, 2, e2x_20), (60, 1, e2x_60)]
set_option maxRecDepth 1000000 in
theorem co_a95 : e2_okSB E_a95.length as_a95 f_a95 rs_a95 = true := by decide +kernel
def al_a95_0 : List ev_V := [(2, 33, 0), (2, 30, 0), (0, 3, 0), (0, 1, 0), (0, 30, 0), (1, 3, 4294967296), (9, 0, 0)]
def E_a95_0 : e2_E := [(2147483648, 2147583648, 0, 0), (2147483652, 2147483668, 1, 0), (2147483648, 2147485248, 2, 0), (2147483648, 2147483678, 3, 0)]
noncomputable def h_a95_0 : ev_H := (an591 : e2_Q8)
noncomputable def cl_a95_e : List (Nat × e2_S) := [(66, e2_cutL (al_a95_0.set 5 (11, 2147483648, 2147483678)) 3 (E_a95_0.take 3) h_a95_0)]
set_option maxRecDepth 1000000 in
theorem ck_a95_e : e2_run (e2_cal S_a95 I_a95 4000 2) (e2_fin rs_a95) e2x_59 (e2_bpL cl_a95_e) (e2_cutA cl_a95_e) 4000 (e2_seek e2x_59 0) (e2_al 7 as_a95) [] E_a95 f_a95 = true := by decide +kernel
noncomputable def cl_a95_0 : List (Nat × e2_S) := [(66, e2_cutL (al_a95_0.set 5 (13, 11, 2147483678)) 3 (E_a95_0.take 3) h_a95_0)]
set_option maxRecDepth 1000000 in
theorem ck_a95_0 : e2_runM (e2_cal S_a95 I_a95 4000 2) (e2_fin rs_a95) e2x_59 (e2_bpL cl_a95_0) (e2_cutA cl_a95_0) 4000 (e2_seek e2x_59 66) al_a95_0 [] E_a95_0 h_a95_0 = true := by decide +kernel
set_option maxRecDepth 1000000 in
theorem ci_a95_0 : e2_idl 3 (al_a95_0.set 5 (9, 0, 0)) = true := by decide +kernel
set_option maxRecDepth 1000000 in
theorem cj_a95_0 : e2_idh 3 8 h_a95_0 = true := by decide +kernel
theorem cs_a95 (hen : en_ok) (l : Launch) (hh : e2_hand_a l) : e2_smOk l 186 s_a95 := by
  refine e2_conG (H := 183) (n := 2) (C := evd_59) (S := S_a95) (I := I_a95) (fuel := 4000) hen ei_59 (e2_fa ((cs_a37 hen l hh).mono (by decide)) (e2_fa (cs_a94 hen l hh) e2_fz)) (e2_fa ein_19 (e2_fa ein_20 (e2_fa ein_60 e2_fz))) (by decide) co_a95 fun M d _ hC hcall p e R s m args below meth c Q D cA A ads r0 ha hl0 => ?_
  have L_0 : e2_gdM M p l e R s m args below meth c Q D cA A ads r0 66 al_a95_0 [] E_a95_0 h_a95_0 := by
    refine e2_indL (u := 3) (j := 5) (lo := 2147483648) (hi := 2147483678) (b := 3) (dd := 0) hl0 (by decide) rfl rfl (Or.inr ⟨rfl, rfl⟩) rfl ci_a95_0 cj_a95_0 ?_
    intro r_0 k_0 hk_0 hp_0 hs_0 hn_0
    have hl_0 : r_0.length ≤ 4 := hs_0.len rfl
    have ha_0 := ha.ext hp_0
    exact e2_fromM hen ha_0 hcall (e2_cutA_ok (e2_fa (fun al st E h hc => hn_0 al st E h hc) e2_fz)) (hC []) (X := e2x_59) ex2_59 66 ck_a95_0
  have EN_0 := e2_entL (u := 3) (j := 5) (lo := 2147483648) (hi := 2147483678) hl0 rfl rfl rfl ci_a95_0 cj_a95_0 L_0
  exact e2_from hen ha hcall (e2_cutA_ok (e2_fa (fun al st E h hc => EN_0 al st E h hc) e2_fz)) (hC []) (X := e2x_59) ex2_59 0 ck_a95_e
/-! a96 X3_parseNot -/
def as_a96 : List ev_V := [(2, 33, 0), (2, 30, 0), (0, 1, 0)]
def E_a96 : e2_E := [(2147483648, 2147583648, 0, 0), (2147483652, 2147483668, 1, 0), (2147483648, 2147485248, 2, 0)]
noncomputable def f_a96 : ev_H := (an591 : e2_Q8)
noncomputable def q_a96_0 : ev_H := (an591 : e2_Q8)
noncomputable def rs_a96 : e2_Rs := [((11, 2147483648, 2147483649), q_a96_0)]
noncomputable def s_a96 : e2_Sm := (61, as_a96, E_a96, f_a96, rs_a96)
noncomputable def S_a96 : List e2_Sm := [s_a37, s_a89]
noncomputable def I_a96 : List e2_In := [(19, 2, e2x_19), (20, 2, e2x_20)]
set_option maxRecDepth 1000000 in
theorem ck_a96 : e2_run (e2_cal S_a96 I_a96 4000 2) (e2_fin rs_a96) e2x_61 (fun _ => false) (fun _ _ _ _ _ => false) 4000 (e2_seek e2x_61 0) (e2_al 3 as_a96) [] E_a96 f_a96 = true := by decide +kernel
set_option maxRecDepth 1000000 in
theorem co_a96 : e2_okSB E_a96.length as_a96 f_a96 rs_a96 = true := by decide +kernel
theorem cs_a96 (hen : en_ok) (l : Launch) (hh : e2_hand_a l) : e2_smOk l 173 s_a96 := e2_con0 (H := 170) (n := 2) (C := evd_61) (S := S_a96) (I := I_a96) (fuel := 4000) [] hen ei_61 (e2_fa ((cs_a37 hen l hh).mono (by decide)) (e2_fa (cs_a89 hen l hh) e2_fz)) (e2_fa ein_19 (e2_fa ein_20 e2_fz)) (by decide) co_a96 ex2_61 ck_a96
/-! a97 X3_parseLevel -/
def as_a97 : List ev_V := [(2, 33, 0), (2, 30, 0), (0, 2, 0), (0, 1, 0)]
def E_a97 : e2_E := [(2147483648, 2147583648, 0, 0), (2147483652, 2147483668, 1, 0), (2147483648, 2147485248, 2, 0)]
noncomputable def f_a97 : ev_H := (an591 : e2_Q8)
noncomputable def q_a97_0 : ev_H := (an591 : e2_Q8)
noncomputable def rs_a97 : e2_Rs := [((11, 2147483648, 2147483649), q_a97_0)]
noncomputable def s_a97 : e2_Sm := (59, as_a97, E_a97, f_a97, rs_a97)
noncomputable def S_a97 : List e2_Sm := [s_a37, s_a95, s_a96]
noncomputable def I_a97 : List e2_In := [(19, 2, e2x_19), (20, 2, e2x_20), (60, 1, e2x_60)]
set_option maxRecDepth 1000000 in
theorem co_a97 : e2_okSB E_a97.length as_a97 f_a97 rs_a97 = true := by decide +kernel
def al_a97_0 : List ev_V := [(2, 33, 0), (2, 30, 0), (0, 2, 0), (0, 1, 0), (0, 1, 0), (1, 3, 4294967296), (9, 0, 0)]
def E_a97_0 : e2_E := [(2147483648, 2147583648, 0, 0), (2147483652, 2147483668, 1, 0), (2147483648, 2147485248, 2, 0), (2147483648, 2147483649, 3, 0)]
noncomputable def h_a97_0 : ev_H := (an591 : e2_Q8)
noncomputable def cl_a97_e : List (Nat × e2_S) := [(66, e2_cutL (al_a97_0.set 5 (11, 2147483648, 2147483649)) 3 (E_a97_0.take 3) h_a97_0)]
set_option maxRecDepth 1000000 in
theorem ck_a97_e : e2_run (e2_cal S_a97 I_a97 4000 2) (e2_fin rs_a97) e2x_59 (e2_bpL cl_a97_e) (e2_cutA cl_a97_e) 4000 (e2_seek e2x_59 0) (e2_al 7 as_a97) [] E_a97 f_a97 = true := by decide +kernel
noncomputable def cl_a97_0 : List (Nat × e2_S) := [(66, e2_cutL (al_a97_0.set 5 (13, 11, 2147483649)) 3 (E_a97_0.take 3) h_a97_0)]
set_option maxRecDepth 1000000 in
theorem ck_a97_0 : e2_runM (e2_cal S_a97 I_a97 4000 2) (e2_fin rs_a97) e2x_59 (e2_bpL cl_a97_0) (e2_cutA cl_a97_0) 4000 (e2_seek e2x_59 66) al_a97_0 [] E_a97_0 h_a97_0 = true := by decide +kernel
set_option maxRecDepth 1000000 in
theorem ci_a97_0 : e2_idl 3 (al_a97_0.set 5 (9, 0, 0)) = true := by decide +kernel
set_option maxRecDepth 1000000 in
theorem cj_a97_0 : e2_idh 3 8 h_a97_0 = true := by decide +kernel
theorem cs_a97 (hen : en_ok) (l : Launch) (hh : e2_hand_a l) : e2_smOk l 189 s_a97 := by
  refine e2_conG (H := 186) (n := 2) (C := evd_59) (S := S_a97) (I := I_a97) (fuel := 4000) hen ei_59 (e2_fa ((cs_a37 hen l hh).mono (by decide)) (e2_fa (cs_a95 hen l hh) (e2_fa ((cs_a96 hen l hh).mono (by decide)) e2_fz))) (e2_fa ein_19 (e2_fa ein_20 (e2_fa ein_60 e2_fz))) (by decide) co_a97 fun M d _ hC hcall p e R s m args below meth c Q D cA A ads r0 ha hl0 => ?_
  have L_0 : e2_gdM M p l e R s m args below meth c Q D cA A ads r0 66 al_a97_0 [] E_a97_0 h_a97_0 := by
    refine e2_indL (u := 3) (j := 5) (lo := 2147483648) (hi := 2147483649) (b := 3) (dd := 0) hl0 (by decide) rfl rfl (Or.inr ⟨rfl, rfl⟩) rfl ci_a97_0 cj_a97_0 ?_
    intro r_0 k_0 hk_0 hp_0 hs_0 hn_0
    have hl_0 : r_0.length ≤ 4 := hs_0.len rfl
    have ha_0 := ha.ext hp_0
    exact e2_fromM hen ha_0 hcall (e2_cutA_ok (e2_fa (fun al st E h hc => hn_0 al st E h hc) e2_fz)) (hC []) (X := e2x_59) ex2_59 66 ck_a97_0
  have EN_0 := e2_entL (u := 3) (j := 5) (lo := 2147483648) (hi := 2147483649) hl0 rfl rfl rfl ci_a97_0 cj_a97_0 L_0
  exact e2_from hen ha hcall (e2_cutA_ok (e2_fa (fun al st E h hc => EN_0 al st E h hc) e2_fz)) (hC []) (X := e2x_59) ex2_59 0 ck_a97_e
/-! a98 X3_parseLevel -/
def as_a98 : List ev_V := [(2, 33, 0), (2, 30, 0), (0, 1, 0), (0, 1, 0)]
def E_a98 : e2_E := [(2147483648, 2147583648, 0, 0), (2147483652, 2147483668, 1, 0), (2147483648, 2147485248, 2, 0)]
noncomputable def f_a98 : ev_H := (an591 : e2_Q8)
noncomputable def q_a98_0 : ev_H := (an591 : e2_Q8)
noncomputable def rs_a98 : e2_Rs := [((11, 2147483648, 2147483649), q_a98_0)]
noncomputable def s_a98 : e2_Sm := (59, as_a98, E_a98, f_a98, rs_a98)
noncomputable def S_a98 : List e2_Sm := [s_a37, s_a97]
noncomputable def I_a98 : List e2_In := [(19, 2, e2x_19), (20, 2, e2x_20), (60, 1, e2x_60)]
set_option maxRecDepth 1000000 in
theorem co_a98 : e2_okSB E_a98.length as_a98 f_a98 rs_a98 = true := by decide +kernel
def al_a98_0 : List ev_V := [(2, 33, 0), (2, 30, 0), (0, 1, 0), (0, 1, 0), (0, 30, 0), (1, 3, 4294967296), (9, 0, 0)]
def E_a98_0 : e2_E := [(2147483648, 2147583648, 0, 0), (2147483652, 2147483668, 1, 0), (2147483648, 2147485248, 2, 0), (2147483648, 2147483678, 3, 0)]
noncomputable def h_a98_0 : ev_H := (an591 : e2_Q8)
noncomputable def cl_a98_e : List (Nat × e2_S) := [(66, e2_cutL (al_a98_0.set 5 (11, 2147483648, 2147483678)) 3 (E_a98_0.take 3) h_a98_0)]
set_option maxRecDepth 1000000 in
theorem ck_a98_e : e2_run (e2_cal S_a98 I_a98 4000 2) (e2_fin rs_a98) e2x_59 (e2_bpL cl_a98_e) (e2_cutA cl_a98_e) 4000 (e2_seek e2x_59 0) (e2_al 7 as_a98) [] E_a98 f_a98 = true := by decide +kernel
noncomputable def cl_a98_0 : List (Nat × e2_S) := [(66, e2_cutL (al_a98_0.set 5 (13, 11, 2147483678)) 3 (E_a98_0.take 3) h_a98_0)]
set_option maxRecDepth 1000000 in
theorem ck_a98_0 : e2_runM (e2_cal S_a98 I_a98 4000 2) (e2_fin rs_a98) e2x_59 (e2_bpL cl_a98_0) (e2_cutA cl_a98_0) 4000 (e2_seek e2x_59 66) al_a98_0 [] E_a98_0 h_a98_0 = true := by decide +kernel
set_option maxRecDepth 1000000 in
theorem ci_a98_0 : e2_idl 3 (al_a98_0.set 5 (9, 0, 0)) = true := by decide +kernel
set_option maxRecDepth 1000000 in
theorem cj_a98_0 : e2_idh 3 8 h_a98_0 = true := by decide +kernel
theorem cs_a98 (hen : en_ok) (l : Launch) (hh : e2_hand_a l) : e2_smOk l 192 s_a98 := by
  refine e2_conG (H := 189) (n := 2) (C := evd_59) (S := S_a98) (I := I_a98) (fuel := 4000) hen ei_59 (e2_fa ((cs_a37 hen l hh).mono (by decide)) (e2_fa (cs_a97 hen l hh) e2_fz)) (e2_fa ein_19 (e2_fa ein_20 (e2_fa ein_60 e2_fz))) (by decide) co_a98 fun M d _ hC hcall p e R s m args below meth c Q D cA A ads r0 ha hl0 => ?_
  have L_0 : e2_gdM M p l e R s m args below meth c Q D cA A ads r0 66 al_a98_0 [] E_a98_0 h_a98_0 := by
    refine e2_indL (u := 3) (j := 5) (lo := 2147483648) (hi := 2147483678) (b := 3) (dd := 0) hl0 (by decide) rfl rfl (Or.inr ⟨rfl, rfl⟩) rfl ci_a98_0 cj_a98_0 ?_
    intro r_0 k_0 hk_0 hp_0 hs_0 hn_0
    have hl_0 : r_0.length ≤ 4 := hs_0.len rfl
    have ha_0 := ha.ext hp_0
    exact e2_fromM hen ha_0 hcall (e2_cutA_ok (e2_fa (fun al st E h hc => hn_0 al st E h hc) e2_fz)) (hC []) (X := e2x_59) ex2_59 66 ck_a98_0
  have EN_0 := e2_entL (u := 3) (j := 5) (lo := 2147483648) (hi := 2147483678) hl0 rfl rfl rfl ci_a98_0 cj_a98_0 L_0
  exact e2_from hen ha hcall (e2_cutA_ok (e2_fa (fun al st E h hc => EN_0 al st E h hc) e2_fz)) (hC []) (X := e2x_59) ex2_59 0 ck_a98_e
/-! a99 X3_parseLevel -/
def as_a99 : List ev_V := [(2, 33, 0), (2, 30, 0), (0, 0, 0), (0, 1, 0)]
def E_a99 : e2_E := [(2147483648, 2147583648, 0, 0), (2147483652, 2147483668, 1, 0), (2147483648, 2147485248, 2, 0)]
noncomputable def f_a99 : ev_H := (an591 : e2_Q8)
noncomputable def q_a99_0 : ev_H := (an591 : e2_Q8)
noncomputable def rs_a99 : e2_Rs := [((11, 2147483648, 2147483649), q_a99_0)]
noncomputable def s_a99 : e2_Sm := (59, as_a99, E_a99, f_a99, rs_a99)
noncomputable def S_a99 : List e2_Sm := [s_a37, s_a98]
noncomputable def I_a99 : List e2_In := [(19, 2, e2x_19), (20, 2, e2x_20), (60, 1, e2x_60)]
set_option maxRecDepth 1000000 in
theorem co_a99 : e2_okSB E_a99.length as_a99 f_a99 rs_a99 = true := by decide +kernel
def al_a99_0 : List ev_V := [(2, 33, 0), (2, 30, 0), (0, 0, 0), (0, 1, 0), (0, 30, 0), (1, 3, 4294967296), (9, 0, 0)]
def E_a99_0 : e2_E := [(2147483648, 2147583648, 0, 0), (2147483652, 2147483668, 1, 0), (2147483648, 2147485248, 2, 0), (2147483648, 2147483678, 3, 0)]
noncomputable def h_a99_0 : ev_H := (an591 : e2_Q8)
noncomputable def cl_a99_e : List (Nat × e2_S) := [(66, e2_cutL (al_a99_0.set 5 (11, 2147483648, 2147483678)) 3 (E_a99_0.take 3) h_a99_0)]
set_option maxRecDepth 1000000 in
theorem ck_a99_e : e2_run (e2_cal S_a99 I_a99 4000 2) (e2_fin rs_a99) e2x_59 (e2_bpL cl_a99_e) (e2_cutA cl_a99_e) 4000 (e2_seek e2x_59 0) (e2_al 7 as_a99) [] E_a99 f_a99 = true := by decide +kernel
noncomputable def cl_a99_0 : List (Nat × e2_S) := [(66, e2_cutL (al_a99_0.set 5 (13, 11, 2147483678)) 3 (E_a99_0.take 3) h_a99_0)]
set_option maxRecDepth 1000000 in
theorem ck_a99_0 : e2_runM (e2_cal S_a99 I_a99 4000 2) (e2_fin rs_a99) e2x_59 (e2_bpL cl_a99_0) (e2_cutA cl_a99_0) 4000 (e2_seek e2x_59 66) al_a99_0 [] E_a99_0 h_a99_0 = true := by decide +kernel
set_option maxRecDepth 1000000 in
theorem ci_a99_0 : e2_idl 3 (al_a99_0.set 5 (9, 0, 0)) = true := by decide +kernel
set_option maxRecDepth 1000000 in
theorem cj_a99_0 : e2_idh 3 8 h_a99_0 = true := by decide +kernel
theorem cs_a99 (hen : en_ok) (l : Launch) (hh : e2_hand_a l) : e2_smOk l 195 s_a99 := by
  refine e2_conG (H := 192) (n := 2) (C := evd_59) (S := S_a99) (I := I_a99) (fuel := 4000) hen ei_59 (e2_fa ((cs_a37 hen l hh).mono (by decide)) (e2_fa (cs_a98 hen l hh) e2_fz)) (e2_fa ein_19 (e2_fa ein_20 (e2_fa ein_60 e2_fz))) (by decide) co_a99 fun M d _ hC hcall p e R s m args below meth c Q D cA A ads r0 ha hl0 => ?_
  have L_0 : e2_gdM M p l e R s m args below meth c Q D cA A ads r0 66 al_a99_0 [] E_a99_0 h_a99_0 := by
    refine e2_indL (u := 3) (j := 5) (lo := 2147483648) (hi := 2147483678) (b := 3) (dd := 0) hl0 (by decide) rfl rfl (Or.inr ⟨rfl, rfl⟩) rfl ci_a99_0 cj_a99_0 ?_
    intro r_0 k_0 hk_0 hp_0 hs_0 hn_0
    have hl_0 : r_0.length ≤ 4 := hs_0.len rfl
    have ha_0 := ha.ext hp_0
    exact e2_fromM hen ha_0 hcall (e2_cutA_ok (e2_fa (fun al st E h hc => hn_0 al st E h hc) e2_fz)) (hC []) (X := e2x_59) ex2_59 66 ck_a99_0
  have EN_0 := e2_entL (u := 3) (j := 5) (lo := 2147483648) (hi := 2147483678) hl0 rfl rfl rfl ci_a99_0 cj_a99_0 L_0
  exact e2_from hen ha hcall (e2_cutA_ok (e2_fa (fun al st E h hc => EN_0 al st E h hc) e2_fz)) (hC []) (X := e2x_59) ex2_59 0 ck_a99_e
/-! a100 X3_parseUnit -/
def as_a100 : List ev_V := [(2, 33, 0), (2, 30, 0), (0, 0, 0)]
def E_a100 : e2_E := [(2147483648, 2147583648, 0, 0), (2147483652, 2147483668, 1, 0), (2147483648, 2147485248, 2, 0)]
noncomputable def f_a100 : ev_H := (an591 : e2_Q8)
noncomputable def q_a100_0 : ev_H := (an591 : e2_Q8)
noncomputable def rs_a100 : e2_Rs := [((11, 2147483648, 2147483649), q_a100_0)]
noncomputable def s_a100 : e2_Sm := (62, as_a100, E_a100, f_a100, rs_a100)
noncomputable def S_a100 : List e2_Sm := [s_a37, s_a38, s_a99]
noncomputable def I_a100 : List e2_In := [(18, 2, e2x_18), (19, 2, e2x_19), (20, 2, e2x_20), (43, 2, e2x_43), (44, 3, e2x_44)]
set_option maxRecDepth 1000000 in
theorem ck_a100 : e2_run (e2_cal S_a100 I_a100 4000 2) (e2_fin rs_a100) e2x_62 (fun _ => false) (fun _ _ _ _ _ => false) 4000 (e2_seek e2x_62 0) (e2_al 7 as_a100) [] E_a100 f_a100 = true := by decide +kernel
set_option maxRecDepth 1000000 in
theorem co_a100 : e2_okSB E_a100.length as_a100 f_a100 rs_a100 = true := by decide +kernel
theorem cs_a100 (hen : en_ok) (l : Launch) (hh : e2_hand_a l) : e2_smOk l 198 s_a100 := e2_con0 (H := 195) (n := 2) (C := evd_62) (S := S_a100) (I := I_a100) (fuel := 4000) [] hen ei_62 (e2_fa ((cs_a37 hen l hh).mono (by decide)) (e2_fa ((cs_a38 hen l hh).mono (by decide)) (e2_fa (cs_a99 hen l hh) e2_fz))) (e2_fa ein_18 (e2_fa ein_19 (e2_fa ein_20 (e2_fa ein_43 (e2_fa ein_44 e2_fz))))) (by decide) co_a100 ex2_62 ck_a100
/-! a101 X3_parseLevel -/
def as_a101 : List ev_V := [(2, 33, 0), (2, 30, 0), (0, 5, 0), (0, 0, 0)]
def E_a101 : e2_E := [(2147483648, 2147583648, 0, 0), (2147483652, 2147483668, 1, 0), (2147483648, 2147485248, 2, 0)]
noncomputable def f_a101 : ev_H := (an591 : e2_Q8)
noncomputable def q_a101_0 : ev_H := (an591 : e2_Q8)
noncomputable def rs_a101 : e2_Rs := [((11, 2147483648, 2147483649), q_a101_0)]
noncomputable def s_a101 : e2_Sm := (59, as_a101, E_a101, f_a101, rs_a101)
noncomputable def S_a101 : List e2_Sm := [s_a100]
noncomputable def I_a101 : List e2_In := []
set_option maxRecDepth 1000000 in
theorem ck_a101 : e2_run (e2_cal S_a101 I_a101 4000 0) (e2_fin rs_a101) e2x_59 (fun _ => false) (fun _ _ _ _ _ => false) 4000 (e2_seek e2x_59 0) (e2_al 7 as_a101) [] E_a101 f_a101 = true := by decide +kernel
set_option maxRecDepth 1000000 in
theorem co_a101 : e2_okSB E_a101.length as_a101 f_a101 rs_a101 = true := by decide +kernel
theorem cs_a101 (hen : en_ok) (l : Launch) (hh : e2_hand_a l) : e2_smOk l 199 s_a101 := e2_con0 (H := 198) (n := 0) (C := evd_59) (S := S_a101) (I := I_a101) (fuel := 4000) [] hen ei_59 (e2_fa (cs_a100 hen l hh) e2_fz) e2_fz (by decide) co_a101 ex2_59 ck_a101
/-! a102 X3_parseLevel -/
def as_a102 : List ev_V := [(2, 33, 0), (2, 30, 0), (0, 4, 0), (0, 0, 0)]
def E_a102 : e2_E := [(2147483648, 2147583648, 0, 0), (2147483652, 2147483668, 1, 0), (2147483648, 2147485248, 2, 0)]
noncomputable def f_a102 : ev_H := (an591 : e2_Q8)
noncomputable def q_a102_0 : ev_H := (an591 : e2_Q8)
noncomputable def rs_a102 : e2_Rs := [((11, 2147483648, 2147483649), q_a102_0)]
noncomputable def s_a102 : e2_Sm := (59, as_a102, E_a102, f_a102, rs_a102)
noncomputable def S_a102 : List e2_Sm := [s_a37, s_a101]
noncomputable def I_a102 : List e2_In := [(19, 2, e2x_19), (20, 2, e2x_20), (60, 1, e2x_60)]
set_option maxRecDepth 1000000 in
theorem co_a102 : e2_okSB E_a102.length as_a102 f_a102 rs_a102 = true := by decide +kernel
def al_a102_0 : List ev_V := [(2, 33, 0), (2, 30, 0), (0, 4, 0), (0, 0, 0), (0, 30, 0), (1, 3, 4294967296), (9, 0, 0)]
def E_a102_0 : e2_E := [(2147483648, 2147583648, 0, 0), (2147483652, 2147483668, 1, 0), (2147483648, 2147485248, 2, 0), (2147483648, 2147483678, 3, 0)]
noncomputable def h_a102_0 : ev_H := (an591 : e2_Q8)
noncomputable def cl_a102_e : List (Nat × e2_S) := [(66, e2_cutL (al_a102_0.set 5 (11, 2147483648, 2147483678)) 3 (E_a102_0.take 3) h_a102_0)]
set_option maxRecDepth 1000000 in
theorem ck_a102_e : e2_run (e2_cal S_a102 I_a102 4000 2) (e2_fin rs_a102) e2x_59 (e2_bpL cl_a102_e) (e2_cutA cl_a102_e) 4000 (e2_seek e2x_59 0) (e2_al 7 as_a102) [] E_a102 f_a102 = true := by decide +kernel
noncomputable def cl_a102_0 : List (Nat × e2_S) := [(66, e2_cutL (al_a102_0.set 5 (13, 11, 2147483678)) 3 (E_a102_0.take 3) h_a102_0)]
set_option maxRecDepth 1000000 in
theorem ck_a102_0 : e2_runM (e2_cal S_a102 I_a102 4000 2) (e2_fin rs_a102) e2x_59 (e2_bpL cl_a102_0) (e2_cutA cl_a102_0) 4000 (e2_seek e2x_59 66) al_a102_0 [] E_a102_0 h_a102_0 = true := by decide +kernel
set_option maxRecDepth 1000000 in
theorem ci_a102_0 : e2_idl 3 (al_a102_0.set 5 (9, 0, 0)) = true := by decide +kernel
set_option maxRecDepth 1000000 in
theorem cj_a102_0 : e2_idh 3 8 h_a102_0 = true := by decide +kernel
theorem cs_a102 (hen : en_ok) (l : Launch) (hh : e2_hand_a l) : e2_smOk l 202 s_a102 := by
  refine e2_conG (H := 199) (n := 2) (C := evd_59) (S := S_a102) (I := I_a102) (fuel := 4000) hen ei_59 (e2_fa ((cs_a37 hen l hh).mono (by decide)) (e2_fa (cs_a101 hen l hh) e2_fz)) (e2_fa ein_19 (e2_fa ein_20 (e2_fa ein_60 e2_fz))) (by decide) co_a102 fun M d _ hC hcall p e R s m args below meth c Q D cA A ads r0 ha hl0 => ?_
  have L_0 : e2_gdM M p l e R s m args below meth c Q D cA A ads r0 66 al_a102_0 [] E_a102_0 h_a102_0 := by
    refine e2_indL (u := 3) (j := 5) (lo := 2147483648) (hi := 2147483678) (b := 3) (dd := 0) hl0 (by decide) rfl rfl (Or.inr ⟨rfl, rfl⟩) rfl ci_a102_0 cj_a102_0 ?_
    intro r_0 k_0 hk_0 hp_0 hs_0 hn_0
    have hl_0 : r_0.length ≤ 4 := hs_0.len rfl
    have ha_0 := ha.ext hp_0
    exact e2_fromM hen ha_0 hcall (e2_cutA_ok (e2_fa (fun al st E h hc => hn_0 al st E h hc) e2_fz)) (hC []) (X := e2x_59) ex2_59 66 ck_a102_0
  have EN_0 := e2_entL (u := 3) (j := 5) (lo := 2147483648) (hi := 2147483678) hl0 rfl rfl rfl ci_a102_0 cj_a102_0 L_0
  exact e2_from hen ha hcall (e2_cutA_ok (e2_fa (fun al st E h hc => EN_0 al st E h hc) e2_fz)) (hC []) (X := e2x_59) ex2_59 0 ck_a102_e
/-! a103 X3_parseLevel -/
def as_a103 : List ev_V := [(2, 33, 0), (2, 30, 0), (0, 3, 0), (0, 0, 0)]
def E_a103 : e2_E := [(2147483648, 2147583648, 0, 0), (2147483652, 2147483668, 1, 0), (2147483648, 2147485248, 2, 0)]
noncomputable def f_a103 : ev_H := (an591 : e2_Q8)
noncomputable def q_a103_0 : ev_H := (an591 : e2_Q8)
noncomputable def rs_a103 : e2_Rs := [((11, 2147483648, 2147483649), q_a103_0)]
noncomputable def s_a103 : e2_Sm := (59, as_a103, E_a103, f_a103, rs_a103)
noncomputable def S_a103 : List e2_Sm := [s_a37, s_a102]
noncomputable def I_a103 : List e2_In := [(19, 2, e2x_19), (20, 2, e2x_20), (60, 1, e2x_60)]
set_option maxRecDepth 1000000 in
theorem co_a103 : e2_okSB E_a103.length as_a103 f_a103 rs_a103 = true := by decide +kernel
def al_a103_0 : List ev_V := [(2, 33, 0), (2, 30, 0), (0, 3, 0), (0, 0, 0), (0, 30, 0), (1, 3, 4294967296), (9, 0, 0)]
def E_a103_0 : e2_E := [(2147483648, 2147583648, 0, 0), (2147483652, 2147483668, 1, 0), (2147483648, 2147485248, 2, 0), (2147483648, 2147483678, 3, 0)]
noncomputable def h_a103_0 : ev_H := (an591 : e2_Q8)
noncomputable def cl_a103_e : List (Nat × e2_S) := [(66, e2_cutL (al_a103_0.set 5 (11, 2147483648, 2147483678)) 3 (E_a103_0.take 3) h_a103_0)]
set_option maxRecDepth 1000000 in
theorem ck_a103_e : e2_run (e2_cal S_a103 I_a103 4000 2) (e2_fin rs_a103) e2x_59 (e2_bpL cl_a103_e) (e2_cutA cl_a103_e) 4000 (e2_seek e2x_59 0) (e2_al 7 as_a103) [] E_a103 f_a103 = true := by decide +kernel
noncomputable def cl_a103_0 : List (Nat × e2_S) := [(66, e2_cutL (al_a103_0.set 5 (13, 11, 2147483678)) 3 (E_a103_0.take 3) h_a103_0)]
set_option maxRecDepth 1000000 in
theorem ck_a103_0 : e2_runM (e2_cal S_a103 I_a103 4000 2) (e2_fin rs_a103) e2x_59 (e2_bpL cl_a103_0) (e2_cutA cl_a103_0) 4000 (e2_seek e2x_59 66) al_a103_0 [] E_a103_0 h_a103_0 = true := by decide +kernel
set_option maxRecDepth 1000000 in
theorem ci_a103_0 : e2_idl 3 (al_a103_0.set 5 (9, 0, 0)) = true := by decide +kernel
set_option maxRecDepth 1000000 in
theorem cj_a103_0 : e2_idh 3 8 h_a103_0 = true := by decide +kernel
theorem cs_a103 (hen : en_ok) (l : Launch) (hh : e2_hand_a l) : e2_smOk l 205 s_a103 := by
  refine e2_conG (H := 202) (n := 2) (C := evd_59) (S := S_a103) (I := I_a103) (fuel := 4000) hen ei_59 (e2_fa ((cs_a37 hen l hh).mono (by decide)) (e2_fa (cs_a102 hen l hh) e2_fz)) (e2_fa ein_19 (e2_fa ein_20 (e2_fa ein_60 e2_fz))) (by decide) co_a103 fun M d _ hC hcall p e R s m args below meth c Q D cA A ads r0 ha hl0 => ?_
  have L_0 : e2_gdM M p l e R s m args below meth c Q D cA A ads r0 66 al_a103_0 [] E_a103_0 h_a103_0 := by
    refine e2_indL (u := 3) (j := 5) (lo := 2147483648) (hi := 2147483678) (b := 3) (dd := 0) hl0 (by decide) rfl rfl (Or.inr ⟨rfl, rfl⟩) rfl ci_a103_0 cj_a103_0 ?_
    intro r_0 k_0 hk_0 hp_0 hs_0 hn_0
    have hl_0 : r_0.length ≤ 4 := hs_0.len rfl
    have ha_0 := ha.ext hp_0
    exact e2_fromM hen ha_0 hcall (e2_cutA_ok (e2_fa (fun al st E h hc => hn_0 al st E h hc) e2_fz)) (hC []) (X := e2x_59) ex2_59 66 ck_a103_0
  have EN_0 := e2_entL (u := 3) (j := 5) (lo := 2147483648) (hi := 2147483678) hl0 rfl rfl rfl ci_a103_0 cj_a103_0 L_0
  exact e2_from hen ha hcall (e2_cutA_ok (e2_fa (fun al st E h hc => EN_0 al st E h hc) e2_fz)) (hC []) (X := e2x_59) ex2_59 0 ck_a103_e
/-! a104 X3_parseNot -/
def as_a104 : List ev_V := [(2, 33, 0), (2, 30, 0), (0, 0, 0)]
def E_a104 : e2_E := [(2147483648, 2147583648, 0, 0), (2147483652, 2147483668, 1, 0), (2147483648, 2147485248, 2, 0)]
noncomputable def f_a104 : ev_H := (an591 : e2_Q8)
noncomputable def q_a104_0 : ev_H := (an591 : e2_Q8)
noncomputable def rs_a104 : e2_Rs := [((11, 2147483648, 2147483649), q_a104_0)]
noncomputable def s_a104 : e2_Sm := (61, as_a104, E_a104, f_a104, rs_a104)
noncomputable def S_a104 : List e2_Sm := [s_a37, s_a97]
noncomputable def I_a104 : List e2_In := [(19, 2, e2x_19), (20, 2, e2x_20)]
set_option maxRecDepth 1000000 in
theorem ck_a104 : e2_run (e2_cal S_a104 I_a104 4000 2) (e2_fin rs_a104) e2x_61 (fun _ => false) (fun _ _ _ _ _ => false) 4000 (e2_seek e2x_61 0) (e2_al 3 as_a104) [] E_a104 f_a104 = true := by decide +kernel
set_option maxRecDepth 1000000 in
theorem co_a104 : e2_okSB E_a104.length as_a104 f_a104 rs_a104 = true := by decide +kernel
theorem cs_a104 (hen : en_ok) (l : Launch) (hh : e2_hand_a l) : e2_smOk l 192 s_a104 := e2_con0 (H := 189) (n := 2) (C := evd_61) (S := S_a104) (I := I_a104) (fuel := 4000) [] hen ei_61 (e2_fa ((cs_a37 hen l hh).mono (by decide)) (e2_fa (cs_a97 hen l hh) e2_fz)) (e2_fa ein_19 (e2_fa ein_20 e2_fz)) (by decide) co_a104 ex2_61 ck_a104
/-! a105 X3_parseLevel -/
def as_a105 : List ev_V := [(2, 33, 0), (2, 30, 0), (0, 2, 0), (0, 0, 0)]
def E_a105 : e2_E := [(2147483648, 2147583648, 0, 0), (2147483652, 2147483668, 1, 0), (2147483648, 2147485248, 2, 0)]
noncomputable def f_a105 : ev_H := (an591 : e2_Q8)
noncomputable def q_a105_0 : ev_H := (an591 : e2_Q8)
noncomputable def rs_a105 : e2_Rs := [((11, 2147483648, 2147483649), q_a105_0)]
noncomputable def s_a105 : e2_Sm := (59, as_a105, E_a105, f_a105, rs_a105)
noncomputable def S_a105 : List e2_Sm := [s_a37, s_a103, s_a104]
noncomputable def I_a105 : List e2_In := [(19, 2, e2x_19), (20, 2, e2x_20), (60, 1, e2x_60)]
set_option maxRecDepth 1000000 in
theorem co_a105 : e2_okSB E_a105.length as_a105 f_a105 rs_a105 = true := by decide +kernel
def al_a105_0 : List ev_V := [(2, 33, 0), (2, 30, 0), (0, 2, 0), (0, 0, 0), (0, 1, 0), (1, 3, 4294967296), (9, 0, 0)]
def E_a105_0 : e2_E := [(2147483648, 2147583648, 0, 0), (2147483652, 2147483668, 1, 0), (2147483648, 2147485248, 2, 0), (2147483648, 2147483649, 3, 0)]
noncomputable def h_a105_0 : ev_H := (an591 : e2_Q8)
noncomputable def cl_a105_e : List (Nat × e2_S) := [(66, e2_cutL (al_a105_0.set 5 (11, 2147483648, 2147483649)) 3 (E_a105_0.take 3) h_a105_0)]
set_option maxRecDepth 1000000 in
theorem ck_a105_e : e2_run (e2_cal S_a105 I_a105 4000 2) (e2_fin rs_a105) e2x_59 (e2_bpL cl_a105_e) (e2_cutA cl_a105_e) 4000 (e2_seek e2x_59 0) (e2_al 7 as_a105) [] E_a105 f_a105 = true := by decide +kernel
noncomputable def cl_a105_0 : List (Nat × e2_S) := [(66, e2_cutL (al_a105_0.set 5 (13, 11, 2147483649)) 3 (E_a105_0.take 3) h_a105_0)]
set_option maxRecDepth 1000000 in
theorem ck_a105_0 : e2_runM (e2_cal S_a105 I_a105 4000 2) (e2_fin rs_a105) e2x_59 (e2_bpL cl_a105_0) (e2_cutA cl_a105_0) 4000 (e2_seek e2x_59 66) al_a105_0 [] E_a105_0 h_a105_0 = true := by decide +kernel
set_option maxRecDepth 1000000 in
theorem ci_a105_0 : e2_idl 3 (al_a105_0.set 5 (9, 0, 0)) = true := by decide +kernel
set_option maxRecDepth 1000000 in
theorem cj_a105_0 : e2_idh 3 8 h_a105_0 = true := by decide +kernel
theorem cs_a105 (hen : en_ok) (l : Launch) (hh : e2_hand_a l) : e2_smOk l 208 s_a105 := by
  refine e2_conG (H := 205) (n := 2) (C := evd_59) (S := S_a105) (I := I_a105) (fuel := 4000) hen ei_59 (e2_fa ((cs_a37 hen l hh).mono (by decide)) (e2_fa (cs_a103 hen l hh) (e2_fa ((cs_a104 hen l hh).mono (by decide)) e2_fz))) (e2_fa ein_19 (e2_fa ein_20 (e2_fa ein_60 e2_fz))) (by decide) co_a105 fun M d _ hC hcall p e R s m args below meth c Q D cA A ads r0 ha hl0 => ?_
  have L_0 : e2_gdM M p l e R s m args below meth c Q D cA A ads r0 66 al_a105_0 [] E_a105_0 h_a105_0 := by
    refine e2_indL (u := 3) (j := 5) (lo := 2147483648) (hi := 2147483649) (b := 3) (dd := 0) hl0 (by decide) rfl rfl (Or.inr ⟨rfl, rfl⟩) rfl ci_a105_0 cj_a105_0 ?_
    intro r_0 k_0 hk_0 hp_0 hs_0 hn_0
    have hl_0 : r_0.length ≤ 4 := hs_0.len rfl
    have ha_0 := ha.ext hp_0
    exact e2_fromM hen ha_0 hcall (e2_cutA_ok (e2_fa (fun al st E h hc => hn_0 al st E h hc) e2_fz)) (hC []) (X := e2x_59) ex2_59 66 ck_a105_0
  have EN_0 := e2_entL (u := 3) (j := 5) (lo := 2147483648) (hi := 2147483649) hl0 rfl rfl rfl ci_a105_0 cj_a105_0 L_0
  exact e2_from hen ha hcall (e2_cutA_ok (e2_fa (fun al st E h hc => EN_0 al st E h hc) e2_fz)) (hC []) (X := e2x_59) ex2_59 0 ck_a105_e
/-! a106 X3_parseLevel -/
def as_a106 : List ev_V := [(2, 33, 0), (2, 30, 0), (0, 1, 0), (0, 0, 0)]
def E_a106 : e2_E := [(2147483648, 2147583648, 0, 0), (2147483652, 2147483668, 1, 0), (2147483648, 2147485248, 2, 0)]
noncomputable def f_a106 : ev_H := (an591 : e2_Q8)
noncomputable def q_a106_0 : ev_H := (an591 : e2_Q8)
noncomputable def rs_a106 : e2_Rs := [((11, 2147483648, 2147483649), q_a106_0)]
noncomputable def s_a106 : e2_Sm := (59, as_a106, E_a106, f_a106, rs_a106)
noncomputable def S_a106 : List e2_Sm := [s_a37, s_a105]
noncomputable def I_a106 : List e2_In := [(19, 2, e2x_19), (20, 2, e2x_20), (60, 1, e2x_60)]
set_option maxRecDepth 1000000 in
theorem co_a106 : e2_okSB E_a106.length as_a106 f_a106 rs_a106 = true := by decide +kernel
def al_a106_0 : List ev_V := [(2, 33, 0), (2, 30, 0), (0, 1, 0), (0, 0, 0), (0, 30, 0), (1, 3, 4294967296), (9, 0, 0)]
def E_a106_0 : e2_E := [(2147483648, 2147583648, 0, 0), (2147483652, 2147483668, 1, 0), (2147483648, 2147485248, 2, 0), (2147483648, 2147483678, 3, 0)]
noncomputable def h_a106_0 : ev_H := (an591 : e2_Q8)
noncomputable def cl_a106_e : List (Nat × e2_S) := [(66, e2_cutL (al_a106_0.set 5 (11, 2147483648, 2147483678)) 3 (E_a106_0.take 3) h_a106_0)]
set_option maxRecDepth 1000000 in
theorem ck_a106_e : e2_run (e2_cal S_a106 I_a106 4000 2) (e2_fin rs_a106) e2x_59 (e2_bpL cl_a106_e) (e2_cutA cl_a106_e) 4000 (e2_seek e2x_59 0) (e2_al 7 as_a106) [] E_a106 f_a106 = true := by decide +kernel
noncomputable def cl_a106_0 : List (Nat × e2_S) := [(66, e2_cutL (al_a106_0.set 5 (13, 11, 2147483678)) 3 (E_a106_0.take 3) h_a106_0)]
set_option maxRecDepth 1000000 in
theorem ck_a106_0 : e2_runM (e2_cal S_a106 I_a106 4000 2) (e2_fin rs_a106) e2x_59 (e2_bpL cl_a106_0) (e2_cutA cl_a106_0) 4000 (e2_seek e2x_59 66) al_a106_0 [] E_a106_0 h_a106_0 = true := by decide +kernel
set_option maxRecDepth 1000000 in
theorem ci_a106_0 : e2_idl 3 (al_a106_0.set 5 (9, 0, 0)) = true := by decide +kernel
set_option maxRecDepth 1000000 in
theorem cj_a106_0 : e2_idh 3 8 h_a106_0 = true := by decide +kernel
theorem cs_a106 (hen : en_ok) (l : Launch) (hh : e2_hand_a l) : e2_smOk l 211 s_a106 := by
  refine e2_conG (H := 208) (n := 2) (C := evd_59) (S := S_a106) (I := I_a106) (fuel := 4000) hen ei_59 (e2_fa ((cs_a37 hen l hh).mono (by decide)) (e2_fa (cs_a105 hen l hh) e2_fz)) (e2_fa ein_19 (e2_fa ein_20 (e2_fa ein_60 e2_fz))) (by decide) co_a106 fun M d _ hC hcall p e R s m args below meth c Q D cA A ads r0 ha hl0 => ?_
  have L_0 : e2_gdM M p l e R s m args below meth c Q D cA A ads r0 66 al_a106_0 [] E_a106_0 h_a106_0 := by
    refine e2_indL (u := 3) (j := 5) (lo := 2147483648) (hi := 2147483678) (b := 3) (dd := 0) hl0 (by decide) rfl rfl (Or.inr ⟨rfl, rfl⟩) rfl ci_a106_0 cj_a106_0 ?_
    intro r_0 k_0 hk_0 hp_0 hs_0 hn_0
    have hl_0 : r_0.length ≤ 4 := hs_0.len rfl
    have ha_0 := ha.ext hp_0
    exact e2_fromM hen ha_0 hcall (e2_cutA_ok (e2_fa (fun al st E h hc => hn_0 al st E h hc) e2_fz)) (hC []) (X := e2x_59) ex2_59 66 ck_a106_0
  have EN_0 := e2_entL (u := 3) (j := 5) (lo := 2147483648) (hi := 2147483678) hl0 rfl rfl rfl ci_a106_0 cj_a106_0 L_0
  exact e2_from hen ha hcall (e2_cutA_ok (e2_fa (fun al st E h hc => EN_0 al st E h hc) e2_fz)) (hC []) (X := e2x_59) ex2_59 0 ck_a106_e
/-! a107 X3_parseLevel -/
def as_a107 : List ev_V := [(2, 33, 0), (2, 30, 0), (0, 0, 0), (0, 0, 0)]
def E_a107 : e2_E := [(2147483648, 2147583648, 0, 0), (2147483652, 2147483668, 1, 0), (2147483648, 2147485248, 2, 0)]
noncomputable def f_a107 : ev_H := (an591 : e2_Q8)
noncomputable def q_a107_0 : ev_H := (an591 : e2_Q8)
noncomputable def rs_a107 : e2_Rs := [((11, 2147483648, 2147483649), q_a107_0)]
noncomputable def s_a107 : e2_Sm := (59, as_a107, E_a107, f_a107, rs_a107)
noncomputable def S_a107 : List e2_Sm := [s_a37, s_a106]
noncomputable def I_a107 : List e2_In := [(19, 2, e2x_19), (20, 2, e2x_20), (60, 1, e2x_60)]
set_option maxRecDepth 1000000 in
theorem co_a107 : e2_okSB E_a107.length as_a107 f_a107 rs_a107 = true := by decide +kernel
def al_a107_0 : List ev_V := [(2, 33, 0), (2, 30, 0), (0, 0, 0), (0, 0, 0), (0, 30, 0), (1, 3, 4294967296), (9, 0, 0)]
def E_a107_0 : e2_E := [(2147483648, 2147583648, 0, 0), (2147483652, 2147483668, 1, 0), (2147483648, 2147485248, 2, 0), (2147483648, 2147483678, 3, 0)]
noncomputable def h_a107_0 : ev_H := (an591 : e2_Q8)
noncomputable def cl_a107_e : List (Nat × e2_S) := [(66, e2_cutL (al_a107_0.set 5 (11, 2147483648, 2147483678)) 3 (E_a107_0.take 3) h_a107_0)]
set_option maxRecDepth 1000000 in
theorem ck_a107_e : e2_run (e2_cal S_a107 I_a107 4000 2) (e2_fin rs_a107) e2x_59 (e2_bpL cl_a107_e) (e2_cutA cl_a107_e) 4000 (e2_seek e2x_59 0) (e2_al 7 as_a107) [] E_a107 f_a107 = true := by decide +kernel
noncomputable def cl_a107_0 : List (Nat × e2_S) := [(66, e2_cutL (al_a107_0.set 5 (13, 11, 2147483678)) 3 (E_a107_0.take 3) h_a107_0)]
set_option maxRecDepth 1000000 in
theorem ck_a107_0 : e2_runM (e2_cal S_a107 I_a107 4000 2) (e2_fin rs_a107) e2x_59 (e2_bpL cl_a107_0) (e2_cutA cl_a107_0) 4000 (e2_seek e2x_59 66) al_a107_0 [] E_a107_0 h_a107_0 = true := by decide +kernel
set_option maxRecDepth 1000000 in
theorem ci_a107_0 : e2_idl 3 (al_a107_0.set 5 (9, 0, 0)) = true := by decide +kernel
set_option maxRecDepth 1000000 in
theorem cj_a107_0 : e2_idh 3 8 h_a107_0 = true := by decide +kernel
theorem cs_a107 (hen : en_ok) (l : Launch) (hh : e2_hand_a l) : e2_smOk l 214 s_a107 := by
  refine e2_conG (H := 211) (n := 2) (C := evd_59) (S := S_a107) (I := I_a107) (fuel := 4000) hen ei_59 (e2_fa ((cs_a37 hen l hh).mono (by decide)) (e2_fa (cs_a106 hen l hh) e2_fz)) (e2_fa ein_19 (e2_fa ein_20 (e2_fa ein_60 e2_fz))) (by decide) co_a107 fun M d _ hC hcall p e R s m args below meth c Q D cA A ads r0 ha hl0 => ?_
  have L_0 : e2_gdM M p l e R s m args below meth c Q D cA A ads r0 66 al_a107_0 [] E_a107_0 h_a107_0 := by
    refine e2_indL (u := 3) (j := 5) (lo := 2147483648) (hi := 2147483678) (b := 3) (dd := 0) hl0 (by decide) rfl rfl (Or.inr ⟨rfl, rfl⟩) rfl ci_a107_0 cj_a107_0 ?_
    intro r_0 k_0 hk_0 hp_0 hs_0 hn_0
    have hl_0 : r_0.length ≤ 4 := hs_0.len rfl
    have ha_0 := ha.ext hp_0
    exact e2_fromM hen ha_0 hcall (e2_cutA_ok (e2_fa (fun al st E h hc => hn_0 al st E h hc) e2_fz)) (hC []) (X := e2x_59) ex2_59 66 ck_a107_0
  have EN_0 := e2_entL (u := 3) (j := 5) (lo := 2147483648) (hi := 2147483678) hl0 rfl rfl rfl ci_a107_0 cj_a107_0 L_0
  exact e2_from hen ha hcall (e2_cutA_ok (e2_fa (fun al st E h hc => EN_0 al st E h hc) e2_fz)) (hC []) (X := e2x_59) ex2_59 0 ck_a107_e
/-! a108 X3_parseFormula -/
def as_a108 : List ev_V := [(2, 33, 0), (2, 30, 0)]
def E_a108 : e2_E := [(2147483648, 2147583648, 0, 0), (2147483652, 2147483668, 1, 0), (2147483648, 2147485248, 2, 0)]
noncomputable def f_a108 : ev_H := (an591 : e2_Q8)
noncomputable def q_a108_0 : ev_H := (an591 : e2_Q8)
noncomputable def rs_a108 : e2_Rs := [((11, 2147483648, 2147483649), q_a108_0)]
noncomputable def s_a108 : e2_Sm := (58, as_a108, E_a108, f_a108, rs_a108)
noncomputable def S_a108 : List e2_Sm := [s_a37, s_a38, s_a107]
noncomputable def I_a108 : List e2_In := [(17, 1, e2x_17), (43, 2, e2x_43), (44, 3, e2x_44)]
set_option maxRecDepth 1000000 in
theorem ck_a108 : e2_run (e2_cal S_a108 I_a108 4000 2) (e2_fin rs_a108) e2x_58 (fun _ => false) (fun _ _ _ _ _ => false) 4000 (e2_seek e2x_58 0) (e2_al 2 as_a108) [] E_a108 f_a108 = true := by decide +kernel
set_option maxRecDepth 1000000 in
theorem co_a108 : e2_okSB E_a108.length as_a108 f_a108 rs_a108 = true := by decide +kernel
theorem cs_a108 (hen : en_ok) (l : Launch) (hh : e2_hand_a l) : e2_smOk l 217 s_a108 := e2_con0 (H := 214) (n := 2) (C := evd_58) (S := S_a108) (I := I_a108) (fuel := 4000) [] hen ei_58 (e2_fa ((cs_a37 hen l hh).mono (by decide)) (e2_fa ((cs_a38 hen l hh).mono (by decide)) (e2_fa (cs_a107 hen l hh) e2_fz))) (e2_fa ein_17 (e2_fa ein_43 (e2_fa ein_44 e2_fz))) (by decide) co_a108 ex2_58 ck_a108
