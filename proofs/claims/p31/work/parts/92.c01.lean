/-! CONTRACTS c, printed by a program -/
/-! c8 X6_begin -/
def as_c8 : List ev_V := [(2, 36, 0), (2, 1, 0)]
def E_c8 : e2_E := [(2147483648, 2147583648, 0, 0), (2147483652, 2147483668, 1, 0)]
def cc157 : ev_C := (6, [(11, 0, 4294967295), (11, 0, 4294967295), (11, 0, 4294967295), (2, 38, 0), (2, 37, 0), (2, 39, 0)])
def cn449 : e2_Q1 := (cc157, cc3)
def cn450 : e2_Q2 := (cn449, cn35)
def cn451 : e2_Q3 := (cn33, cn450)
def cn452 : e2_Q4 := (cn451, cn44)
def cn453 : e2_Q5 := (cn452, cn60)
def cn454 : e2_Q6 := (cn30, cn453)
def cn455 : e2_Q4 := (cn298, cn76)
def cn456 : e2_Q5 := (cn455, cn92)
def cn457 : e2_Q6 := (cn456, cn124)
def cn458 : e2_Q7 := (cn454, cn457)
def cc158 : ev_C := (8, [(11, 2147483652, 2147483668), (11, 2147483648, 2147483656), (11, 0, 4294967295), (2, 3, 0), (2, 9, 0), (2, 10, 0), (11, 2147483648, 2147483652), (11, 0, 4294967295), (11, 0, 4294967295), (11, 0, 4294967295), (2, 11, 0), (2, 14, 0), (2, 2, 0), (2, 4, 0), (2, 5, 0), (2, 6, 0), (2, 7, 0), (2, 8, 0)])
def cn459 : e2_Q1 := (cc158, cc69)
def cn460 : e2_Q2 := (cn459, cn128)
def cn461 : e2_Q3 := (cn460, cn132)
def cn462 : e2_Q4 := (cn461, cn140)
def cn463 : e2_Q5 := (cn462, cn156)
def cc159 : ev_C := (54, [(0, 4, 0), (11, 0, 4294967295)])
def cn464 : e2_Q1 := (cc159, cc3)
def cn465 : e2_Q2 := (cn464, cn162)
def cn466 : e2_Q3 := (cn160, cn465)
def cn467 : e2_Q4 := (cn466, cn171)
def cn468 : e2_Q5 := (cn467, cn187)
def cn469 : e2_Q6 := (cn463, cn468)
def cn470 : e2_Q1 := (cc159, cc102)
def cn471 : e2_Q2 := (cn470, cn191)
def cn472 : e2_Q3 := (cn471, cn271)
def cn473 : e2_Q4 := (cn472, cn203)
def cn474 : e2_Q5 := (cn473, cn219)
def cn475 : e2_Q6 := (cn474, cn251)
def cn476 : e2_Q7 := (cn469, cn475)
def cn477 : e2_Q8 := (cn458, cn476)
noncomputable def f_c8 : ev_H := (cn477 : e2_Q8)
noncomputable def q_c8_0 : ev_H := (cn477 : e2_Q8)
noncomputable def rs_c8 : e2_Rs := [((9, 0, 0), q_c8_0)]
noncomputable def s_c8 : e2_Sm := (8, as_c8, E_c8, f_c8, rs_c8)
noncomputable def S_c8 : List e2_Sm := []
noncomputable def I_c8 : List e2_In := []
set_option maxRecDepth 1000000 in
theorem co_c8 : e2_okSB E_c8.length as_c8 f_c8 rs_c8 = true := by decide +kernel
def al_c8_0 : List ev_V := [(2, 36, 0), (2, 1, 0), (1, 2, 4294967296)]
def E_c8_0 : e2_E := [(2147483648, 2147583648, 0, 0), (2147483652, 2147483668, 1, 0), (2147483648, 2147483652, 2, 0)]
noncomputable def h_c8_0 : ev_H := (cn477 : e2_Q8)
noncomputable def cl_c8_e : List (Nat × e2_S) := [(20, e2_cutL (al_c8_0.set 2 (11, 2147483648, 2147483652)) 2 (E_c8_0.take 2) h_c8_0)]
set_option maxRecDepth 1000000 in
theorem ck_c8_e : e2_run (e2_cal S_c8 I_c8 4000 0) (e2_fin rs_c8) e2x_8 (e2_bpL cl_c8_e) (e2_cutA cl_c8_e) 4000 (e2_seek e2x_8 0) (e2_al 3 as_c8) [] E_c8 f_c8 = true := by decide +kernel
noncomputable def cl_c8_0 : List (Nat × e2_S) := [(20, e2_cutL (al_c8_0.set 2 (13, 10, 2147483652)) 2 (E_c8_0.take 2) h_c8_0)]
set_option maxRecDepth 1000000 in
theorem ck_c8_0 : e2_runM (e2_cal S_c8 I_c8 4000 0) (e2_fin rs_c8) e2x_8 (e2_bpL cl_c8_0) (e2_cutA cl_c8_0) 4000 (e2_seek e2x_8 20) al_c8_0 [] E_c8_0 h_c8_0 = true := by decide +kernel
set_option maxRecDepth 1000000 in
theorem ci_c8_0 : e2_idl 2 (al_c8_0.set 2 (9, 0, 0)) = true := by decide +kernel
set_option maxRecDepth 1000000 in
theorem cj_c8_0 : e2_idh 2 8 h_c8_0 = true := by decide +kernel
theorem cs_c8 (hen : en_ok) (l : Launch) : e2_smOk l 1 s_c8 := by
  refine e2_conG (H := 0) (n := 0) (C := evd_8) (S := S_c8) (I := I_c8) (fuel := 4000) hen ei_8 e2_fz e2_fz (by decide) co_c8 fun M d _ hC hcall p e R s m args below meth c Q D cA A ads r0 ha hl0 => ?_
  have L_0 : e2_gdM M p l e R s m args below meth c Q D cA A ads r0 20 al_c8_0 [] E_c8_0 h_c8_0 := by
    refine e2_indL (u := 2) (j := 2) (lo := 2147483648) (hi := 2147483652) (b := 2) (dd := 0) hl0 (by decide) rfl rfl (Or.inr ⟨rfl, rfl⟩) rfl ci_c8_0 cj_c8_0 ?_
    intro r_0 k_0 hk_0 hp_0 hs_0 hn_0
    have hl_0 : r_0.length ≤ 3 := hs_0.len rfl
    have ha_0 := ha.ext hp_0
    exact e2_fromM hen ha_0 hcall (e2_cutA_ok (e2_fa (fun al st E h hc => hn_0 al st E h hc) e2_fz)) (hC []) (X := e2x_8) ex2_8 20 ck_c8_0
  have EN_0 := e2_entL (u := 2) (j := 2) (lo := 2147483648) (hi := 2147483652) hl0 rfl rfl rfl ci_c8_0 cj_c8_0 L_0
  exact e2_from hen ha hcall (e2_cutA_ok (e2_fa (fun al st E h hc => EN_0 al st E h hc) e2_fz)) (hC []) (X := e2x_8) ex2_8 0 ck_c8_e
/-! c9 X0_join -/
def as_c9 : List ev_V := [(11, 0, 4294967295), (11, 0, 4294967295), (11, 0, 4294967295)]
def E_c9 : e2_E := [(2147483648, 2147583648, 0, 0), (2147483652, 2147483668, 1, 0)]
def cn478 : e2_Q7 := (cn62, cn457)
def cn479 : e2_Q8 := (cn478, cn276)
noncomputable def f_c9 : ev_H := (cn479 : e2_Q8)
noncomputable def q_c9_0 : ev_H := (cn479 : e2_Q8)
noncomputable def rs_c9 : e2_Rs := [((11, 0, 4294967295), q_c9_0)]
noncomputable def s_c9 : e2_Sm := (22, as_c9, E_c9, f_c9, rs_c9)
noncomputable def S_c9 : List e2_Sm := []
noncomputable def I_c9 : List e2_In := []
set_option maxRecDepth 1000000 in
theorem ck_c9 : e2_run (e2_cal S_c9 I_c9 4000 0) (e2_fin rs_c9) e2x_22 (fun _ => false) (fun _ _ _ _ _ => false) 4000 (e2_seek e2x_22 0) (e2_al 3 as_c9) [] E_c9 f_c9 = true := by decide +kernel
set_option maxRecDepth 1000000 in
theorem co_c9 : e2_okSB E_c9.length as_c9 f_c9 rs_c9 = true := by decide +kernel
theorem cs_c9 (hen : en_ok) (l : Launch) : e2_smOk l 1 s_c9 := e2_con0 (H := 0) (n := 0) (C := evd_22) (S := S_c9) (I := I_c9) (fuel := 4000) [] hen ei_22 e2_fz e2_fz (by decide) co_c9 ex2_22 ck_c9
/-! c10 X0_valueBy -/
def as_c10 : List ev_V := [(2, 27, 0), (2, 49, 0)]
def E_c10 : e2_E := [(2147483648, 2147583648, 0, 0), (2147483652, 2147483668, 1, 0)]
def cc160 : ev_C := (54, [(0, 300, 0), (11, 0, 4294967295)])
def cn480 : e2_Q1 := (cc160, cc3)
def cn481 : e2_Q2 := (cn480, cn54)
def cn482 : e2_Q3 := (cn481, cn58)
def cn483 : e2_Q4 := (cn52, cn482)
def cn484 : e2_Q5 := (cn45, cn483)
def cn485 : e2_Q6 := (cn30, cn484)
def cn486 : e2_Q7 := (cn485, cn457)
def cc161 : ev_C := (54, [(0, 6, 0), (11, 0, 4294967295)])
def cn487 : e2_Q1 := (cc161, cc3)
def cn488 : e2_Q2 := (cn487, cn138)
def cn489 : e2_Q3 := (cn136, cn488)
def cn490 : e2_Q4 := (cn133, cn489)
def cn491 : e2_Q5 := (cn490, cn156)
def cc162 : ev_C := (54, [(0, 31, 0), (11, 0, 4294967295)])
def cn492 : e2_Q1 := (cc162, cc3)
def cn493 : e2_Q2 := (cn492, cn181)
def cn494 : e2_Q3 := (cn493, cn185)
def cn495 : e2_Q4 := (cn179, cn494)
def cn496 : e2_Q5 := (cn172, cn495)
def cn497 : e2_Q6 := (cn491, cn496)
def cc163 : ev_C := (0, [(2, 28, 0), (2, 29, 0), (11, 0, 4294967295), (11, 2147483648, 2147483948)])
def cn498 : e2_Q1 := (cc163, cc3)
def cn499 : e2_Q2 := (cn498, cn213)
def cn500 : e2_Q3 := (cn499, cn217)
def cn501 : e2_Q4 := (cn211, cn500)
def cn502 : e2_Q5 := (cn273, cn501)
def cn503 : e2_Q6 := (cn502, cn251)
def cn504 : e2_Q7 := (cn497, cn503)
def cn505 : e2_Q8 := (cn486, cn504)
noncomputable def f_c10 : ev_H := (cn505 : e2_Q8)
noncomputable def q_c10_0 : ev_H := (cn505 : e2_Q8)
noncomputable def rs_c10 : e2_Rs := [((11, 0, 4294967295), q_c10_0)]
noncomputable def s_c10 : e2_Sm := (21, as_c10, E_c10, f_c10, rs_c10)
noncomputable def S_c10 : List e2_Sm := [s_c9]
noncomputable def I_c10 : List e2_In := []
set_option maxRecDepth 1000000 in
theorem co_c10 : e2_okSB E_c10.length as_c10 f_c10 rs_c10 = true := by decide +kernel
def al_c10_0 : List ev_V := [(2, 27, 0), (2, 49, 0), (11, 2147483648, 2147483679), (1, 2, 4294967296), (9, 0, 0), (9, 0, 0)]
def E_c10_0 : e2_E := [(2147483648, 2147583648, 0, 0), (2147483652, 2147483668, 1, 0), (2147483648, 2147483948, 2, 0)]
noncomputable def h_c10_0 : ev_H := (cn505 : e2_Q8)
noncomputable def cl_c10_e : List (Nat × e2_S) := [(16, e2_cutL (al_c10_0.set 3 (11, 2147483648, 2147483948)) 2 (E_c10_0.take 2) h_c10_0)]
set_option maxRecDepth 1000000 in
theorem ck_c10_e : e2_run (e2_cal S_c10 I_c10 4000 0) (e2_fin rs_c10) e2x_21 (e2_bpL cl_c10_e) (e2_cutA cl_c10_e) 4000 (e2_seek e2x_21 0) (e2_al 6 as_c10) [] E_c10 f_c10 = true := by decide +kernel
noncomputable def cl_c10_0 : List (Nat × e2_S) := [(16, e2_cutL (al_c10_0.set 3 (13, 10, 2147483948)) 2 (E_c10_0.take 2) h_c10_0)]
set_option maxRecDepth 1000000 in
theorem ck_c10_0 : e2_runM (e2_cal S_c10 I_c10 4000 0) (e2_fin rs_c10) e2x_21 (e2_bpL cl_c10_0) (e2_cutA cl_c10_0) 4000 (e2_seek e2x_21 16) al_c10_0 [] E_c10_0 h_c10_0 = true := by decide +kernel
set_option maxRecDepth 1000000 in
theorem ci_c10_0 : e2_idl 2 (al_c10_0.set 3 (9, 0, 0)) = true := by decide +kernel
set_option maxRecDepth 1000000 in
theorem cj_c10_0 : e2_idh 2 8 h_c10_0 = true := by decide +kernel
theorem cs_c10 (hen : en_ok) (l : Launch) : e2_smOk l 2 s_c10 := by
  refine e2_conG (H := 1) (n := 0) (C := evd_21) (S := S_c10) (I := I_c10) (fuel := 4000) hen ei_21 (e2_fa (cs_c9 hen l) e2_fz) e2_fz (by decide) co_c10 fun M d _ hC hcall p e R s m args below meth c Q D cA A ads r0 ha hl0 => ?_
  have L_0 : e2_gdM M p l e R s m args below meth c Q D cA A ads r0 16 al_c10_0 [] E_c10_0 h_c10_0 := by
    refine e2_indL (u := 2) (j := 3) (lo := 2147483648) (hi := 2147483948) (b := 2) (dd := 0) hl0 (by decide) rfl rfl (Or.inr ⟨rfl, rfl⟩) rfl ci_c10_0 cj_c10_0 ?_
    intro r_0 k_0 hk_0 hp_0 hs_0 hn_0
    have hl_0 : r_0.length ≤ 3 := hs_0.len rfl
    have ha_0 := ha.ext hp_0
    exact e2_fromM hen ha_0 hcall (e2_cutA_ok (e2_fa (fun al st E h hc => hn_0 al st E h hc) e2_fz)) (hC []) (X := e2x_21) ex2_21 16 ck_c10_0
  have EN_0 := e2_entL (u := 2) (j := 3) (lo := 2147483648) (hi := 2147483948) hl0 rfl rfl rfl ci_c10_0 cj_c10_0 L_0
  exact e2_from hen ha hcall (e2_cutA_ok (e2_fa (fun al st E h hc => EN_0 al st E h hc) e2_fz)) (hC []) (X := e2x_21) ex2_21 0 ck_c10_e
/-! c11 X0_valueBy -/
def as_c11 : List ev_V := [(2, 30, 0), (2, 39, 0)]
def E_c11 : e2_E := [(2147483648, 2147583648, 0, 0), (2147483652, 2147483668, 1, 0)]
def cn506 : e2_Q2 := (cn492, cn4)
def cn507 : e2_Q3 := (cn2, cn506)
def cn508 : e2_Q4 := (cn507, cn13)
def cn509 : e2_Q5 := (cn508, cn29)
def cn510 : e2_Q6 := (cn509, cn61)
def cc164 : ev_C := (0, [(2, 31, 0), (2, 32, 0), (11, 0, 4294967295), (11, 2147483648, 2147483948)])
def cn511 : e2_Q1 := (cc164, cc3)
def cn512 : e2_Q2 := (cn511, cn117)
def cn513 : e2_Q3 := (cn512, cn121)
def cn514 : e2_Q4 := (cn115, cn513)
def cn515 : e2_Q5 := (cn108, cn514)
def cn516 : e2_Q6 := (cn456, cn515)
def cn517 : e2_Q7 := (cn510, cn516)
def cn518 : e2_Q2 := (cn487, cn225)
def cn519 : e2_Q3 := (cn223, cn518)
def cn520 : e2_Q4 := (cn519, cn234)
def cn521 : e2_Q2 := (cn480, cn244)
def cn522 : e2_Q3 := (cn521, cn248)
def cn523 : e2_Q4 := (cn242, cn522)
def cn524 : e2_Q5 := (cn520, cn523)
def cn525 : e2_Q6 := (cn274, cn524)
def cn526 : e2_Q7 := (cn189, cn525)
def cn527 : e2_Q8 := (cn517, cn526)
noncomputable def f_c11 : ev_H := (cn527 : e2_Q8)
noncomputable def q_c11_0 : ev_H := (cn527 : e2_Q8)
noncomputable def rs_c11 : e2_Rs := [((11, 0, 4294967295), q_c11_0)]
noncomputable def s_c11 : e2_Sm := (21, as_c11, E_c11, f_c11, rs_c11)
noncomputable def S_c11 : List e2_Sm := [s_c9]
noncomputable def I_c11 : List e2_In := []
set_option maxRecDepth 1000000 in
theorem co_c11 : e2_okSB E_c11.length as_c11 f_c11 rs_c11 = true := by decide +kernel
def al_c11_0 : List ev_V := [(2, 30, 0), (2, 39, 0), (11, 2147483648, 2147483679), (1, 2, 4294967296), (9, 0, 0), (9, 0, 0)]
def E_c11_0 : e2_E := [(2147483648, 2147583648, 0, 0), (2147483652, 2147483668, 1, 0), (2147483648, 2147483948, 2, 0)]
noncomputable def h_c11_0 : ev_H := (cn527 : e2_Q8)
noncomputable def cl_c11_e : List (Nat × e2_S) := [(16, e2_cutL (al_c11_0.set 3 (11, 2147483648, 2147483948)) 2 (E_c11_0.take 2) h_c11_0)]
set_option maxRecDepth 1000000 in
theorem ck_c11_e : e2_run (e2_cal S_c11 I_c11 4000 0) (e2_fin rs_c11) e2x_21 (e2_bpL cl_c11_e) (e2_cutA cl_c11_e) 4000 (e2_seek e2x_21 0) (e2_al 6 as_c11) [] E_c11 f_c11 = true := by decide +kernel
noncomputable def cl_c11_0 : List (Nat × e2_S) := [(16, e2_cutL (al_c11_0.set 3 (13, 10, 2147483948)) 2 (E_c11_0.take 2) h_c11_0)]
set_option maxRecDepth 1000000 in
theorem ck_c11_0 : e2_runM (e2_cal S_c11 I_c11 4000 0) (e2_fin rs_c11) e2x_21 (e2_bpL cl_c11_0) (e2_cutA cl_c11_0) 4000 (e2_seek e2x_21 16) al_c11_0 [] E_c11_0 h_c11_0 = true := by decide +kernel
set_option maxRecDepth 1000000 in
theorem ci_c11_0 : e2_idl 2 (al_c11_0.set 3 (9, 0, 0)) = true := by decide +kernel
set_option maxRecDepth 1000000 in
theorem cj_c11_0 : e2_idh 2 8 h_c11_0 = true := by decide +kernel
theorem cs_c11 (hen : en_ok) (l : Launch) : e2_smOk l 2 s_c11 := by
  refine e2_conG (H := 1) (n := 0) (C := evd_21) (S := S_c11) (I := I_c11) (fuel := 4000) hen ei_21 (e2_fa (cs_c9 hen l) e2_fz) e2_fz (by decide) co_c11 fun M d _ hC hcall p e R s m args below meth c Q D cA A ads r0 ha hl0 => ?_
  have L_0 : e2_gdM M p l e R s m args below meth c Q D cA A ads r0 16 al_c11_0 [] E_c11_0 h_c11_0 := by
    refine e2_indL (u := 2) (j := 3) (lo := 2147483648) (hi := 2147483948) (b := 2) (dd := 0) hl0 (by decide) rfl rfl (Or.inr ⟨rfl, rfl⟩) rfl ci_c11_0 cj_c11_0 ?_
    intro r_0 k_0 hk_0 hp_0 hs_0 hn_0
    have hl_0 : r_0.length ≤ 3 := hs_0.len rfl
    have ha_0 := ha.ext hp_0
    exact e2_fromM hen ha_0 hcall (e2_cutA_ok (e2_fa (fun al st E h hc => hn_0 al st E h hc) e2_fz)) (hC []) (X := e2x_21) ex2_21 16 ck_c11_0
  have EN_0 := e2_entL (u := 2) (j := 3) (lo := 2147483648) (hi := 2147483948) hl0 rfl rfl rfl ci_c11_0 cj_c11_0 L_0
  exact e2_from hen ha hcall (e2_cutA_ok (e2_fa (fun al st E h hc => EN_0 al st E h hc) e2_fz)) (hC []) (X := e2x_21) ex2_21 0 ck_c11_e
/-! c12 X0_valueBy -/
def as_c12 : List ev_V := [(2, 30, 0), (2, 43, 0)]
def E_c12 : e2_E := [(2147483648, 2147583648, 0, 0), (2147483652, 2147483668, 1, 0)]
def cn528 : e2_Q2 := (cn487, cn209)
def cn529 : e2_Q3 := (cn207, cn528)
def cn530 : e2_Q4 := (cn529, cn218)
def cn531 : e2_Q5 := (cn273, cn530)
def cn532 : e2_Q5 := (cn235, cn523)
def cn533 : e2_Q6 := (cn531, cn532)
def cn534 : e2_Q7 := (cn189, cn533)
def cn535 : e2_Q8 := (cn517, cn534)
noncomputable def f_c12 : ev_H := (cn535 : e2_Q8)
noncomputable def q_c12_0 : ev_H := (cn535 : e2_Q8)
noncomputable def rs_c12 : e2_Rs := [((11, 0, 4294967295), q_c12_0)]
noncomputable def s_c12 : e2_Sm := (21, as_c12, E_c12, f_c12, rs_c12)
noncomputable def S_c12 : List e2_Sm := [s_c9]
noncomputable def I_c12 : List e2_In := []
set_option maxRecDepth 1000000 in
theorem co_c12 : e2_okSB E_c12.length as_c12 f_c12 rs_c12 = true := by decide +kernel
def al_c12_0 : List ev_V := [(2, 30, 0), (2, 43, 0), (11, 2147483648, 2147483679), (1, 2, 4294967296), (9, 0, 0), (9, 0, 0)]
def E_c12_0 : e2_E := [(2147483648, 2147583648, 0, 0), (2147483652, 2147483668, 1, 0), (2147483648, 2147483948, 2, 0)]
noncomputable def h_c12_0 : ev_H := (cn535 : e2_Q8)
noncomputable def cl_c12_e : List (Nat × e2_S) := [(16, e2_cutL (al_c12_0.set 3 (11, 2147483648, 2147483948)) 2 (E_c12_0.take 2) h_c12_0)]
set_option maxRecDepth 1000000 in
theorem ck_c12_e : e2_run (e2_cal S_c12 I_c12 4000 0) (e2_fin rs_c12) e2x_21 (e2_bpL cl_c12_e) (e2_cutA cl_c12_e) 4000 (e2_seek e2x_21 0) (e2_al 6 as_c12) [] E_c12 f_c12 = true := by decide +kernel
noncomputable def cl_c12_0 : List (Nat × e2_S) := [(16, e2_cutL (al_c12_0.set 3 (13, 10, 2147483948)) 2 (E_c12_0.take 2) h_c12_0)]
set_option maxRecDepth 1000000 in
theorem ck_c12_0 : e2_runM (e2_cal S_c12 I_c12 4000 0) (e2_fin rs_c12) e2x_21 (e2_bpL cl_c12_0) (e2_cutA cl_c12_0) 4000 (e2_seek e2x_21 16) al_c12_0 [] E_c12_0 h_c12_0 = true := by decide +kernel
set_option maxRecDepth 1000000 in
theorem ci_c12_0 : e2_idl 2 (al_c12_0.set 3 (9, 0, 0)) = true := by decide +kernel
set_option maxRecDepth 1000000 in
theorem cj_c12_0 : e2_idh 2 8 h_c12_0 = true := by decide +kernel
theorem cs_c12 (hen : en_ok) (l : Launch) : e2_smOk l 2 s_c12 := by
  refine e2_conG (H := 1) (n := 0) (C := evd_21) (S := S_c12) (I := I_c12) (fuel := 4000) hen ei_21 (e2_fa (cs_c9 hen l) e2_fz) e2_fz (by decide) co_c12 fun M d _ hC hcall p e R s m args below meth c Q D cA A ads r0 ha hl0 => ?_
  have L_0 : e2_gdM M p l e R s m args below meth c Q D cA A ads r0 16 al_c12_0 [] E_c12_0 h_c12_0 := by
    refine e2_indL (u := 2) (j := 3) (lo := 2147483648) (hi := 2147483948) (b := 2) (dd := 0) hl0 (by decide) rfl rfl (Or.inr ⟨rfl, rfl⟩) rfl ci_c12_0 cj_c12_0 ?_
    intro r_0 k_0 hk_0 hp_0 hs_0 hn_0
    have hl_0 : r_0.length ≤ 3 := hs_0.len rfl
    have ha_0 := ha.ext hp_0
    exact e2_fromM hen ha_0 hcall (e2_cutA_ok (e2_fa (fun al st E h hc => hn_0 al st E h hc) e2_fz)) (hC []) (X := e2x_21) ex2_21 16 ck_c12_0
  have EN_0 := e2_entL (u := 2) (j := 3) (lo := 2147483648) (hi := 2147483948) hl0 rfl rfl rfl ci_c12_0 cj_c12_0 L_0
  exact e2_from hen ha hcall (e2_cutA_ok (e2_fa (fun al st E h hc => EN_0 al st E h hc) e2_fz)) (hC []) (X := e2x_21) ex2_21 0 ck_c12_e
/-! c13 X0_valueBy -/
def as_c13 : List ev_V := [(2, 27, 0), (2, 67, 0)]
def E_c13 : e2_E := [(2147483648, 2147583648, 0, 0), (2147483652, 2147483668, 1, 0)]
def cn536 : e2_Q6 := (cn157, cn496)
def cn537 : e2_Q2 := (cn190, cn487)
def cn538 : e2_Q3 := (cn537, cn271)
def cn539 : e2_Q4 := (cn538, cn203)
def cn540 : e2_Q5 := (cn539, cn501)
def cn541 : e2_Q6 := (cn540, cn251)
def cn542 : e2_Q7 := (cn536, cn541)
def cn543 : e2_Q8 := (cn486, cn542)
noncomputable def f_c13 : ev_H := (cn543 : e2_Q8)
noncomputable def q_c13_0 : ev_H := (cn543 : e2_Q8)
noncomputable def rs_c13 : e2_Rs := [((11, 0, 4294967295), q_c13_0)]
noncomputable def s_c13 : e2_Sm := (21, as_c13, E_c13, f_c13, rs_c13)
noncomputable def S_c13 : List e2_Sm := [s_c9]
noncomputable def I_c13 : List e2_In := []
set_option maxRecDepth 1000000 in
theorem co_c13 : e2_okSB E_c13.length as_c13 f_c13 rs_c13 = true := by decide +kernel
def al_c13_0 : List ev_V := [(2, 27, 0), (2, 67, 0), (11, 2147483648, 2147483679), (1, 2, 4294967296), (9, 0, 0), (9, 0, 0)]
def E_c13_0 : e2_E := [(2147483648, 2147583648, 0, 0), (2147483652, 2147483668, 1, 0), (2147483648, 2147483948, 2, 0)]
noncomputable def h_c13_0 : ev_H := (cn543 : e2_Q8)
noncomputable def cl_c13_e : List (Nat × e2_S) := [(16, e2_cutL (al_c13_0.set 3 (11, 2147483648, 2147483948)) 2 (E_c13_0.take 2) h_c13_0)]
set_option maxRecDepth 1000000 in
theorem ck_c13_e : e2_run (e2_cal S_c13 I_c13 4000 0) (e2_fin rs_c13) e2x_21 (e2_bpL cl_c13_e) (e2_cutA cl_c13_e) 4000 (e2_seek e2x_21 0) (e2_al 6 as_c13) [] E_c13 f_c13 = true := by decide +kernel
noncomputable def cl_c13_0 : List (Nat × e2_S) := [(16, e2_cutL (al_c13_0.set 3 (13, 10, 2147483948)) 2 (E_c13_0.take 2) h_c13_0)]
set_option maxRecDepth 1000000 in
theorem ck_c13_0 : e2_runM (e2_cal S_c13 I_c13 4000 0) (e2_fin rs_c13) e2x_21 (e2_bpL cl_c13_0) (e2_cutA cl_c13_0) 4000 (e2_seek e2x_21 16) al_c13_0 [] E_c13_0 h_c13_0 = true := by decide +kernel
set_option maxRecDepth 1000000 in
theorem ci_c13_0 : e2_idl 2 (al_c13_0.set 3 (9, 0, 0)) = true := by decide +kernel
set_option maxRecDepth 1000000 in
theorem cj_c13_0 : e2_idh 2 8 h_c13_0 = true := by decide +kernel
theorem cs_c13 (hen : en_ok) (l : Launch) : e2_smOk l 2 s_c13 := by
  refine e2_conG (H := 1) (n := 0) (C := evd_21) (S := S_c13) (I := I_c13) (fuel := 4000) hen ei_21 (e2_fa (cs_c9 hen l) e2_fz) e2_fz (by decide) co_c13 fun M d _ hC hcall p e R s m args below meth c Q D cA A ads r0 ha hl0 => ?_
  have L_0 : e2_gdM M p l e R s m args below meth c Q D cA A ads r0 16 al_c13_0 [] E_c13_0 h_c13_0 := by
    refine e2_indL (u := 2) (j := 3) (lo := 2147483648) (hi := 2147483948) (b := 2) (dd := 0) hl0 (by decide) rfl rfl (Or.inr ⟨rfl, rfl⟩) rfl ci_c13_0 cj_c13_0 ?_
    intro r_0 k_0 hk_0 hp_0 hs_0 hn_0
    have hl_0 : r_0.length ≤ 3 := hs_0.len rfl
    have ha_0 := ha.ext hp_0
    exact e2_fromM hen ha_0 hcall (e2_cutA_ok (e2_fa (fun al st E h hc => hn_0 al st E h hc) e2_fz)) (hC []) (X := e2x_21) ex2_21 16 ck_c13_0
  have EN_0 := e2_entL (u := 2) (j := 3) (lo := 2147483648) (hi := 2147483948) hl0 rfl rfl rfl ci_c13_0 cj_c13_0 L_0
  exact e2_from hen ha hcall (e2_cutA_ok (e2_fa (fun al st E h hc => EN_0 al st E h hc) e2_fz)) (hC []) (X := e2x_21) ex2_21 0 ck_c13_e
/-! c14 X1_hear -/
def as_c14 : List ev_V := [(2, 77, 0), (11, 0, 4294967295), (11, 0, 4294967295), (11, 0, 4294967295), (11, 2147483648, 2147483649)]
def E_c14 : e2_E := [(2147483648, 2147583648, 0, 0), (2147483652, 2147483668, 1, 0)]
def cc165 : ev_C := (54, [(0, 30, 0), (11, 0, 4294967295)])
def cn544 : e2_Q1 := (cc165, cc3)
def cn545 : e2_Q2 := (cn7, cn544)
def cn546 : e2_Q3 := (cn545, cn12)
def cn547 : e2_Q4 := (cn6, cn546)
def cn548 : e2_Q5 := (cn547, cn29)
def cn549 : e2_Q6 := (cn548, cn61)
def cn550 : e2_Q2 := (cn109, cn544)
def cn551 : e2_Q3 := (cn550, cn114)
def cn552 : e2_Q4 := (cn551, cn122)
def cn553 : e2_Q5 := (cn108, cn552)
def cn554 : e2_Q6 := (cn456, cn553)
def cn555 : e2_Q7 := (cn549, cn554)
def cn556 : e2_Q2 := (cn134, cn544)
def cn557 : e2_Q3 := (cn556, cn139)
def cn558 : e2_Q4 := (cn133, cn557)
def cn559 : e2_Q5 := (cn558, cn156)
def cc166 : ev_C := (1, [(2, 82, 0), (11, 2147483648, 2147483652), (11, 2147483648, 2147483678), (1, 0, 4294967296), (2, 78, 0), (2, 79, 0), (2, 80, 0), (2, 81, 0)])
def cn560 : e2_Q1 := (cc166, cc3)
def cn561 : e2_Q2 := (cn173, cn560)
def cn562 : e2_Q3 := (cn561, cn178)
def cn563 : e2_Q4 := (cn562, cn186)
def cn564 : e2_Q5 := (cn172, cn563)
def cn565 : e2_Q6 := (cn559, cn564)
def cc167 : ev_C := (56, [(0, 30, 0), (11, 2147483648, 2147483649)])
def cn566 : e2_Q1 := (cc167, cc3)
def cn567 : e2_Q2 := (cn236, cn566)
def cn568 : e2_Q3 := (cn567, cn241)
def cn569 : e2_Q4 := (cn568, cn249)
def cn570 : e2_Q5 := (cn235, cn569)
def cn571 : e2_Q6 := (cn274, cn570)
def cn572 : e2_Q7 := (cn565, cn571)
def cn573 : e2_Q8 := (cn555, cn572)
noncomputable def f_c14 : ev_H := (cn573 : e2_Q8)
noncomputable def q_c14_0 : ev_H := (cn573 : e2_Q8)
noncomputable def rs_c14 : e2_Rs := [((11, 2147483647, 2147483677), q_c14_0)]
noncomputable def s_c14 : e2_Sm := (26, as_c14, E_c14, f_c14, rs_c14)
noncomputable def S_c14 : List e2_Sm := []
noncomputable def I_c14 : List e2_In := [(24, 2, e2x_24), (25, 3, e2x_25)]
set_option maxRecDepth 1000000 in
theorem ck_c14 : e2_run (e2_cal S_c14 I_c14 4000 1) (e2_fin rs_c14) e2x_26 (fun _ => false) (fun _ _ _ _ _ => false) 4000 (e2_seek e2x_26 0) (e2_al 5 as_c14) [] E_c14 f_c14 = true := by decide +kernel
set_option maxRecDepth 1000000 in
theorem co_c14 : e2_okSB E_c14.length as_c14 f_c14 rs_c14 = true := by decide +kernel
theorem cs_c14 (hen : en_ok) (l : Launch) : e2_smOk l 2 s_c14 := e2_con0 (H := 0) (n := 1) (C := evd_26) (S := S_c14) (I := I_c14) (fuel := 4000) [] hen ei_26 e2_fz (e2_fa ein_24 (e2_fa ein_25 e2_fz)) (by decide) co_c14 ex2_26 ck_c14
/-! c15 X1_choicesFrom -/
def as_c15 : List ev_V := [(2, 77, 0), (0, 16, 0), (11, 0, 4294967295)]
def E_c15 : e2_E := [(2147483648, 2147583648, 0, 0), (2147483652, 2147483668, 1, 0)]
noncomputable def f_c15 : ev_H := (cn479 : e2_Q8)
noncomputable def q_c15_0 : ev_H := (cn479 : e2_Q8)
noncomputable def rs_c15 : e2_Rs := [((0, 1, 0), q_c15_0)]
noncomputable def s_c15 : e2_Sm := (32, as_c15, E_c15, f_c15, rs_c15)
noncomputable def S_c15 : List e2_Sm := []
noncomputable def I_c15 : List e2_In := []
set_option maxRecDepth 1000000 in
theorem ck_c15 : e2_run (e2_cal S_c15 I_c15 4000 0) (e2_fin rs_c15) e2x_32 (fun _ => false) (fun _ _ _ _ _ => false) 4000 (e2_seek e2x_32 0) (e2_al 6 as_c15) [] E_c15 f_c15 = true := by decide +kernel
set_option maxRecDepth 1000000 in
theorem co_c15 : e2_okSB E_c15.length as_c15 f_c15 rs_c15 = true := by decide +kernel
theorem cs_c15 (hen : en_ok) (l : Launch) : e2_smOk l 1 s_c15 := e2_con0 (H := 0) (n := 0) (C := evd_32) (S := S_c15) (I := I_c15) (fuel := 4000) [] hen ei_32 e2_fz e2_fz (by decide) co_c15 ex2_32 ck_c15
/-! c16 X1_choicesFrom -/
def as_c16 : List ev_V := [(2, 77, 0), (0, 15, 0), (11, 0, 4294967295)]
def E_c16 : e2_E := [(2147483648, 2147583648, 0, 0), (2147483652, 2147483668, 1, 0)]
def cc168 : ev_C := (54, [(0, 16, 0), (11, 0, 4294967295)])
def cn574 : e2_Q1 := (cc168, cc3)
def cn575 : e2_Q2 := (cn70, cn574)
def cn576 : e2_Q3 := (cn575, cn75)
def cn577 : e2_Q4 := (cn298, cn576)
def cn578 : e2_Q5 := (cn577, cn92)
def cn579 : e2_Q6 := (cn578, cn124)
def cn580 : e2_Q7 := (cn62, cn579)
def cn581 : e2_Q6 := (cn157, cn564)
def cn582 : e2_Q7 := (cn581, cn275)
def cn583 : e2_Q8 := (cn580, cn582)
noncomputable def f_c16 : ev_H := (cn583 : e2_Q8)
noncomputable def q_c16_0 : ev_H := (cn583 : e2_Q8)
noncomputable def rs_c16 : e2_Rs := [((11, 2147483649, 2147483650), q_c16_0)]
noncomputable def s_c16 : e2_Sm := (32, as_c16, E_c16, f_c16, rs_c16)
noncomputable def S_c16 : List e2_Sm := [s_c15]
noncomputable def I_c16 : List e2_In := []
set_option maxRecDepth 1000000 in
theorem ck_c16 : e2_run (e2_cal S_c16 I_c16 4000 0) (e2_fin rs_c16) e2x_32 (fun _ => false) (fun _ _ _ _ _ => false) 4000 (e2_seek e2x_32 0) (e2_al 6 as_c16) [] E_c16 f_c16 = true := by decide +kernel
set_option maxRecDepth 1000000 in
theorem co_c16 : e2_okSB E_c16.length as_c16 f_c16 rs_c16 = true := by decide +kernel
theorem cs_c16 (hen : en_ok) (l : Launch) : e2_smOk l 2 s_c16 := e2_con0 (H := 1) (n := 0) (C := evd_32) (S := S_c16) (I := I_c16) (fuel := 4000) [] hen ei_32 (e2_fa (cs_c15 hen l) e2_fz) e2_fz (by decide) co_c16 ex2_32 ck_c16
/-! c17 X1_choicesFrom -/
def as_c17 : List ev_V := [(2, 77, 0), (0, 14, 0), (11, 0, 4294967295)]
def E_c17 : e2_E := [(2147483648, 2147583648, 0, 0), (2147483652, 2147483668, 1, 0)]
noncomputable def f_c17 : ev_H := (cn583 : e2_Q8)
noncomputable def q_c17_0 : ev_H := (cn583 : e2_Q8)
noncomputable def rs_c17 : e2_Rs := [((11, 2147483649, 2147483652), q_c17_0)]
noncomputable def s_c17 : e2_Sm := (32, as_c17, E_c17, f_c17, rs_c17)
noncomputable def S_c17 : List e2_Sm := [s_c16]
noncomputable def I_c17 : List e2_In := []
set_option maxRecDepth 1000000 in
theorem ck_c17 : e2_run (e2_cal S_c17 I_c17 4000 0) (e2_fin rs_c17) e2x_32 (fun _ => false) (fun _ _ _ _ _ => false) 4000 (e2_seek e2x_32 0) (e2_al 6 as_c17) [] E_c17 f_c17 = true := by decide +kernel
set_option maxRecDepth 1000000 in
theorem co_c17 : e2_okSB E_c17.length as_c17 f_c17 rs_c17 = true := by decide +kernel
theorem cs_c17 (hen : en_ok) (l : Launch) : e2_smOk l 3 s_c17 := e2_con0 (H := 2) (n := 0) (C := evd_32) (S := S_c17) (I := I_c17) (fuel := 4000) [] hen ei_32 (e2_fa (cs_c16 hen l) e2_fz) e2_fz (by decide) co_c17 ex2_32 ck_c17
/-! c18 X1_choicesFrom -/
def as_c18 : List ev_V := [(2, 77, 0), (0, 13, 0), (11, 0, 4294967295)]
def E_c18 : e2_E := [(2147483648, 2147583648, 0, 0), (2147483652, 2147483668, 1, 0)]
noncomputable def f_c18 : ev_H := (cn583 : e2_Q8)
noncomputable def q_c18_0 : ev_H := (cn583 : e2_Q8)
noncomputable def rs_c18 : e2_Rs := [((11, 2147483649, 2147483656), q_c18_0)]
noncomputable def s_c18 : e2_Sm := (32, as_c18, E_c18, f_c18, rs_c18)
noncomputable def S_c18 : List e2_Sm := [s_c17]
noncomputable def I_c18 : List e2_In := []
set_option maxRecDepth 1000000 in
theorem ck_c18 : e2_run (e2_cal S_c18 I_c18 4000 0) (e2_fin rs_c18) e2x_32 (fun _ => false) (fun _ _ _ _ _ => false) 4000 (e2_seek e2x_32 0) (e2_al 6 as_c18) [] E_c18 f_c18 = true := by decide +kernel
set_option maxRecDepth 1000000 in
theorem co_c18 : e2_okSB E_c18.length as_c18 f_c18 rs_c18 = true := by decide +kernel
theorem cs_c18 (hen : en_ok) (l : Launch) : e2_smOk l 4 s_c18 := e2_con0 (H := 3) (n := 0) (C := evd_32) (S := S_c18) (I := I_c18) (fuel := 4000) [] hen ei_32 (e2_fa (cs_c17 hen l) e2_fz) e2_fz (by decide) co_c18 ex2_32 ck_c18
/-! c19 X1_choicesFrom -/
def as_c19 : List ev_V := [(2, 77, 0), (0, 12, 0), (11, 0, 4294967295)]
def E_c19 : e2_E := [(2147483648, 2147583648, 0, 0), (2147483652, 2147483668, 1, 0)]
noncomputable def f_c19 : ev_H := (cn583 : e2_Q8)
noncomputable def q_c19_0 : ev_H := (cn583 : e2_Q8)
noncomputable def rs_c19 : e2_Rs := [((11, 2147483649, 2147483664), q_c19_0)]
noncomputable def s_c19 : e2_Sm := (32, as_c19, E_c19, f_c19, rs_c19)
noncomputable def S_c19 : List e2_Sm := [s_c18]
noncomputable def I_c19 : List e2_In := []
set_option maxRecDepth 1000000 in
theorem ck_c19 : e2_run (e2_cal S_c19 I_c19 4000 0) (e2_fin rs_c19) e2x_32 (fun _ => false) (fun _ _ _ _ _ => false) 4000 (e2_seek e2x_32 0) (e2_al 6 as_c19) [] E_c19 f_c19 = true := by decide +kernel
set_option maxRecDepth 1000000 in
theorem co_c19 : e2_okSB E_c19.length as_c19 f_c19 rs_c19 = true := by decide +kernel
theorem cs_c19 (hen : en_ok) (l : Launch) : e2_smOk l 5 s_c19 := e2_con0 (H := 4) (n := 0) (C := evd_32) (S := S_c19) (I := I_c19) (fuel := 4000) [] hen ei_32 (e2_fa (cs_c18 hen l) e2_fz) e2_fz (by decide) co_c19 ex2_32 ck_c19
/-! c20 X1_choicesFrom -/
def as_c20 : List ev_V := [(2, 77, 0), (0, 11, 0), (11, 0, 4294967295)]
def E_c20 : e2_E := [(2147483648, 2147583648, 0, 0), (2147483652, 2147483668, 1, 0)]
noncomputable def f_c20 : ev_H := (cn583 : e2_Q8)
noncomputable def q_c20_0 : ev_H := (cn583 : e2_Q8)
noncomputable def rs_c20 : e2_Rs := [((11, 2147483649, 2147483680), q_c20_0)]
noncomputable def s_c20 : e2_Sm := (32, as_c20, E_c20, f_c20, rs_c20)
noncomputable def S_c20 : List e2_Sm := [s_c19]
noncomputable def I_c20 : List e2_In := []
set_option maxRecDepth 1000000 in
theorem ck_c20 : e2_run (e2_cal S_c20 I_c20 4000 0) (e2_fin rs_c20) e2x_32 (fun _ => false) (fun _ _ _ _ _ => false) 4000 (e2_seek e2x_32 0) (e2_al 6 as_c20) [] E_c20 f_c20 = true := by decide +kernel
set_option maxRecDepth 1000000 in
theorem co_c20 : e2_okSB E_c20.length as_c20 f_c20 rs_c20 = true := by decide +kernel
theorem cs_c20 (hen : en_ok) (l : Launch) : e2_smOk l 6 s_c20 := e2_con0 (H := 5) (n := 0) (C := evd_32) (S := S_c20) (I := I_c20) (fuel := 4000) [] hen ei_32 (e2_fa (cs_c19 hen l) e2_fz) e2_fz (by decide) co_c20 ex2_32 ck_c20
/-! c21 X1_choicesFrom -/
def as_c21 : List ev_V := [(2, 77, 0), (0, 10, 0), (11, 0, 4294967295)]
def E_c21 : e2_E := [(2147483648, 2147583648, 0, 0), (2147483652, 2147483668, 1, 0)]
noncomputable def f_c21 : ev_H := (cn583 : e2_Q8)
noncomputable def q_c21_0 : ev_H := (cn583 : e2_Q8)
noncomputable def rs_c21 : e2_Rs := [((11, 2147483649, 2147483712), q_c21_0)]
noncomputable def s_c21 : e2_Sm := (32, as_c21, E_c21, f_c21, rs_c21)
noncomputable def S_c21 : List e2_Sm := [s_c20]
noncomputable def I_c21 : List e2_In := []
set_option maxRecDepth 1000000 in
theorem ck_c21 : e2_run (e2_cal S_c21 I_c21 4000 0) (e2_fin rs_c21) e2x_32 (fun _ => false) (fun _ _ _ _ _ => false) 4000 (e2_seek e2x_32 0) (e2_al 6 as_c21) [] E_c21 f_c21 = true := by decide +kernel
set_option maxRecDepth 1000000 in
theorem co_c21 : e2_okSB E_c21.length as_c21 f_c21 rs_c21 = true := by decide +kernel
theorem cs_c21 (hen : en_ok) (l : Launch) : e2_smOk l 7 s_c21 := e2_con0 (H := 6) (n := 0) (C := evd_32) (S := S_c21) (I := I_c21) (fuel := 4000) [] hen ei_32 (e2_fa (cs_c20 hen l) e2_fz) e2_fz (by decide) co_c21 ex2_32 ck_c21
/-! c22 X1_choicesFrom -/
def as_c22 : List ev_V := [(2, 77, 0), (0, 9, 0), (11, 0, 4294967295)]
def E_c22 : e2_E := [(2147483648, 2147583648, 0, 0), (2147483652, 2147483668, 1, 0)]
noncomputable def f_c22 : ev_H := (cn583 : e2_Q8)
noncomputable def q_c22_0 : ev_H := (cn583 : e2_Q8)
noncomputable def rs_c22 : e2_Rs := [((11, 2147483649, 2147483776), q_c22_0)]
noncomputable def s_c22 : e2_Sm := (32, as_c22, E_c22, f_c22, rs_c22)
noncomputable def S_c22 : List e2_Sm := [s_c21]
noncomputable def I_c22 : List e2_In := []
set_option maxRecDepth 1000000 in
theorem ck_c22 : e2_run (e2_cal S_c22 I_c22 4000 0) (e2_fin rs_c22) e2x_32 (fun _ => false) (fun _ _ _ _ _ => false) 4000 (e2_seek e2x_32 0) (e2_al 6 as_c22) [] E_c22 f_c22 = true := by decide +kernel
set_option maxRecDepth 1000000 in
theorem co_c22 : e2_okSB E_c22.length as_c22 f_c22 rs_c22 = true := by decide +kernel
theorem cs_c22 (hen : en_ok) (l : Launch) : e2_smOk l 8 s_c22 := e2_con0 (H := 7) (n := 0) (C := evd_32) (S := S_c22) (I := I_c22) (fuel := 4000) [] hen ei_32 (e2_fa (cs_c21 hen l) e2_fz) e2_fz (by decide) co_c22 ex2_32 ck_c22
/-! c23 X1_choicesFrom -/
def as_c23 : List ev_V := [(2, 77, 0), (0, 8, 0), (11, 0, 4294967295)]
def E_c23 : e2_E := [(2147483648, 2147583648, 0, 0), (2147483652, 2147483668, 1, 0)]
noncomputable def f_c23 : ev_H := (cn583 : e2_Q8)
noncomputable def q_c23_0 : ev_H := (cn583 : e2_Q8)
noncomputable def rs_c23 : e2_Rs := [((11, 2147483649, 2147483904), q_c23_0)]
noncomputable def s_c23 : e2_Sm := (32, as_c23, E_c23, f_c23, rs_c23)
noncomputable def S_c23 : List e2_Sm := [s_c22]
noncomputable def I_c23 : List e2_In := []
set_option maxRecDepth 1000000 in
theorem ck_c23 : e2_run (e2_cal S_c23 I_c23 4000 0) (e2_fin rs_c23) e2x_32 (fun _ => false) (fun _ _ _ _ _ => false) 4000 (e2_seek e2x_32 0) (e2_al 6 as_c23) [] E_c23 f_c23 = true := by decide +kernel
set_option maxRecDepth 1000000 in
theorem co_c23 : e2_okSB E_c23.length as_c23 f_c23 rs_c23 = true := by decide +kernel
theorem cs_c23 (hen : en_ok) (l : Launch) : e2_smOk l 9 s_c23 := e2_con0 (H := 8) (n := 0) (C := evd_32) (S := S_c23) (I := I_c23) (fuel := 4000) [] hen ei_32 (e2_fa (cs_c22 hen l) e2_fz) e2_fz (by decide) co_c23 ex2_32 ck_c23
/-! c24 X1_choicesFrom -/
def as_c24 : List ev_V := [(2, 77, 0), (0, 7, 0), (11, 0, 4294967295)]
def E_c24 : e2_E := [(2147483648, 2147583648, 0, 0), (2147483652, 2147483668, 1, 0)]
noncomputable def f_c24 : ev_H := (cn583 : e2_Q8)
noncomputable def q_c24_0 : ev_H := (cn583 : e2_Q8)
noncomputable def rs_c24 : e2_Rs := [((11, 2147483649, 2147484160), q_c24_0)]
noncomputable def s_c24 : e2_Sm := (32, as_c24, E_c24, f_c24, rs_c24)
noncomputable def S_c24 : List e2_Sm := [s_c23]
noncomputable def I_c24 : List e2_In := []
set_option maxRecDepth 1000000 in
theorem ck_c24 : e2_run (e2_cal S_c24 I_c24 4000 0) (e2_fin rs_c24) e2x_32 (fun _ => false) (fun _ _ _ _ _ => false) 4000 (e2_seek e2x_32 0) (e2_al 6 as_c24) [] E_c24 f_c24 = true := by decide +kernel
set_option maxRecDepth 1000000 in
theorem co_c24 : e2_okSB E_c24.length as_c24 f_c24 rs_c24 = true := by decide +kernel
theorem cs_c24 (hen : en_ok) (l : Launch) : e2_smOk l 10 s_c24 := e2_con0 (H := 9) (n := 0) (C := evd_32) (S := S_c24) (I := I_c24) (fuel := 4000) [] hen ei_32 (e2_fa (cs_c23 hen l) e2_fz) e2_fz (by decide) co_c24 ex2_32 ck_c24
/-! c25 X1_choicesFrom -/
def as_c25 : List ev_V := [(2, 77, 0), (0, 6, 0), (11, 0, 4294967295)]
def E_c25 : e2_E := [(2147483648, 2147583648, 0, 0), (2147483652, 2147483668, 1, 0)]
noncomputable def f_c25 : ev_H := (cn583 : e2_Q8)
noncomputable def q_c25_0 : ev_H := (cn583 : e2_Q8)
noncomputable def rs_c25 : e2_Rs := [((11, 2147483649, 2147484672), q_c25_0)]
noncomputable def s_c25 : e2_Sm := (32, as_c25, E_c25, f_c25, rs_c25)
noncomputable def S_c25 : List e2_Sm := [s_c24]
noncomputable def I_c25 : List e2_In := []
set_option maxRecDepth 1000000 in
theorem ck_c25 : e2_run (e2_cal S_c25 I_c25 4000 0) (e2_fin rs_c25) e2x_32 (fun _ => false) (fun _ _ _ _ _ => false) 4000 (e2_seek e2x_32 0) (e2_al 6 as_c25) [] E_c25 f_c25 = true := by decide +kernel
set_option maxRecDepth 1000000 in
theorem co_c25 : e2_okSB E_c25.length as_c25 f_c25 rs_c25 = true := by decide +kernel
theorem cs_c25 (hen : en_ok) (l : Launch) : e2_smOk l 11 s_c25 := e2_con0 (H := 10) (n := 0) (C := evd_32) (S := S_c25) (I := I_c25) (fuel := 4000) [] hen ei_32 (e2_fa (cs_c24 hen l) e2_fz) e2_fz (by decide) co_c25 ex2_32 ck_c25
/-! c26 X1_choicesFrom -/
def as_c26 : List ev_V := [(2, 77, 0), (0, 5, 0), (11, 0, 4294967295)]
def E_c26 : e2_E := [(2147483648, 2147583648, 0, 0), (2147483652, 2147483668, 1, 0)]
noncomputable def f_c26 : ev_H := (cn583 : e2_Q8)
noncomputable def q_c26_0 : ev_H := (cn583 : e2_Q8)
noncomputable def rs_c26 : e2_Rs := [((11, 2147483649, 2147485696), q_c26_0)]
noncomputable def s_c26 : e2_Sm := (32, as_c26, E_c26, f_c26, rs_c26)
noncomputable def S_c26 : List e2_Sm := [s_c25]
noncomputable def I_c26 : List e2_In := []
set_option maxRecDepth 1000000 in
theorem ck_c26 : e2_run (e2_cal S_c26 I_c26 4000 0) (e2_fin rs_c26) e2x_32 (fun _ => false) (fun _ _ _ _ _ => false) 4000 (e2_seek e2x_32 0) (e2_al 6 as_c26) [] E_c26 f_c26 = true := by decide +kernel
set_option maxRecDepth 1000000 in
theorem co_c26 : e2_okSB E_c26.length as_c26 f_c26 rs_c26 = true := by decide +kernel
theorem cs_c26 (hen : en_ok) (l : Launch) : e2_smOk l 12 s_c26 := e2_con0 (H := 11) (n := 0) (C := evd_32) (S := S_c26) (I := I_c26) (fuel := 4000) [] hen ei_32 (e2_fa (cs_c25 hen l) e2_fz) e2_fz (by decide) co_c26 ex2_32 ck_c26
/-! c27 X1_choicesFrom -/
def as_c27 : List ev_V := [(2, 77, 0), (0, 4, 0), (11, 0, 4294967295)]
def E_c27 : e2_E := [(2147483648, 2147583648, 0, 0), (2147483652, 2147483668, 1, 0)]
noncomputable def f_c27 : ev_H := (cn583 : e2_Q8)
noncomputable def q_c27_0 : ev_H := (cn583 : e2_Q8)
noncomputable def rs_c27 : e2_Rs := [((11, 2147483649, 2147487744), q_c27_0)]
noncomputable def s_c27 : e2_Sm := (32, as_c27, E_c27, f_c27, rs_c27)
noncomputable def S_c27 : List e2_Sm := [s_c26]
noncomputable def I_c27 : List e2_In := []
set_option maxRecDepth 1000000 in
theorem ck_c27 : e2_run (e2_cal S_c27 I_c27 4000 0) (e2_fin rs_c27) e2x_32 (fun _ => false) (fun _ _ _ _ _ => false) 4000 (e2_seek e2x_32 0) (e2_al 6 as_c27) [] E_c27 f_c27 = true := by decide +kernel
set_option maxRecDepth 1000000 in
theorem co_c27 : e2_okSB E_c27.length as_c27 f_c27 rs_c27 = true := by decide +kernel
theorem cs_c27 (hen : en_ok) (l : Launch) : e2_smOk l 13 s_c27 := e2_con0 (H := 12) (n := 0) (C := evd_32) (S := S_c27) (I := I_c27) (fuel := 4000) [] hen ei_32 (e2_fa (cs_c26 hen l) e2_fz) e2_fz (by decide) co_c27 ex2_32 ck_c27
/-! c28 X1_choicesFrom -/
def as_c28 : List ev_V := [(2, 77, 0), (0, 3, 0), (11, 0, 4294967295)]
def E_c28 : e2_E := [(2147483648, 2147583648, 0, 0), (2147483652, 2147483668, 1, 0)]
noncomputable def f_c28 : ev_H := (cn583 : e2_Q8)
noncomputable def q_c28_0 : ev_H := (cn583 : e2_Q8)
noncomputable def rs_c28 : e2_Rs := [((11, 2147483649, 2147491840), q_c28_0)]
noncomputable def s_c28 : e2_Sm := (32, as_c28, E_c28, f_c28, rs_c28)
noncomputable def S_c28 : List e2_Sm := [s_c27]
noncomputable def I_c28 : List e2_In := []
set_option maxRecDepth 1000000 in
theorem ck_c28 : e2_run (e2_cal S_c28 I_c28 4000 0) (e2_fin rs_c28) e2x_32 (fun _ => false) (fun _ _ _ _ _ => false) 4000 (e2_seek e2x_32 0) (e2_al 6 as_c28) [] E_c28 f_c28 = true := by decide +kernel
set_option maxRecDepth 1000000 in
theorem co_c28 : e2_okSB E_c28.length as_c28 f_c28 rs_c28 = true := by decide +kernel
theorem cs_c28 (hen : en_ok) (l : Launch) : e2_smOk l 14 s_c28 := e2_con0 (H := 13) (n := 0) (C := evd_32) (S := S_c28) (I := I_c28) (fuel := 4000) [] hen ei_32 (e2_fa (cs_c27 hen l) e2_fz) e2_fz (by decide) co_c28 ex2_32 ck_c28
/-! c29 X1_choicesFrom -/
def as_c29 : List ev_V := [(2, 77, 0), (0, 2, 0), (11, 0, 4294967295)]
def E_c29 : e2_E := [(2147483648, 2147583648, 0, 0), (2147483652, 2147483668, 1, 0)]
noncomputable def f_c29 : ev_H := (cn583 : e2_Q8)
noncomputable def q_c29_0 : ev_H := (cn583 : e2_Q8)
noncomputable def rs_c29 : e2_Rs := [((11, 2147483649, 2147500032), q_c29_0)]
noncomputable def s_c29 : e2_Sm := (32, as_c29, E_c29, f_c29, rs_c29)
noncomputable def S_c29 : List e2_Sm := [s_c28]
noncomputable def I_c29 : List e2_In := []
set_option maxRecDepth 1000000 in
theorem ck_c29 : e2_run (e2_cal S_c29 I_c29 4000 0) (e2_fin rs_c29) e2x_32 (fun _ => false) (fun _ _ _ _ _ => false) 4000 (e2_seek e2x_32 0) (e2_al 6 as_c29) [] E_c29 f_c29 = true := by decide +kernel
set_option maxRecDepth 1000000 in
theorem co_c29 : e2_okSB E_c29.length as_c29 f_c29 rs_c29 = true := by decide +kernel
theorem cs_c29 (hen : en_ok) (l : Launch) : e2_smOk l 15 s_c29 := e2_con0 (H := 14) (n := 0) (C := evd_32) (S := S_c29) (I := I_c29) (fuel := 4000) [] hen ei_32 (e2_fa (cs_c28 hen l) e2_fz) e2_fz (by decide) co_c29 ex2_32 ck_c29
/-! c30 X1_choicesFrom -/
def as_c30 : List ev_V := [(2, 77, 0), (0, 1, 0), (11, 0, 4294967295)]
def E_c30 : e2_E := [(2147483648, 2147583648, 0, 0), (2147483652, 2147483668, 1, 0)]
noncomputable def f_c30 : ev_H := (cn583 : e2_Q8)
noncomputable def q_c30_0 : ev_H := (cn583 : e2_Q8)
noncomputable def rs_c30 : e2_Rs := [((11, 2147483649, 2147516416), q_c30_0)]
noncomputable def s_c30 : e2_Sm := (32, as_c30, E_c30, f_c30, rs_c30)
noncomputable def S_c30 : List e2_Sm := [s_c29]
noncomputable def I_c30 : List e2_In := []
set_option maxRecDepth 1000000 in
theorem ck_c30 : e2_run (e2_cal S_c30 I_c30 4000 0) (e2_fin rs_c30) e2x_32 (fun _ => false) (fun _ _ _ _ _ => false) 4000 (e2_seek e2x_32 0) (e2_al 6 as_c30) [] E_c30 f_c30 = true := by decide +kernel
set_option maxRecDepth 1000000 in
theorem co_c30 : e2_okSB E_c30.length as_c30 f_c30 rs_c30 = true := by decide +kernel
theorem cs_c30 (hen : en_ok) (l : Launch) : e2_smOk l 16 s_c30 := e2_con0 (H := 15) (n := 0) (C := evd_32) (S := S_c30) (I := I_c30) (fuel := 4000) [] hen ei_32 (e2_fa (cs_c29 hen l) e2_fz) e2_fz (by decide) co_c30 ex2_32 ck_c30
/-! c31 X1_choicesFrom -/
def as_c31 : List ev_V := [(2, 77, 0), (0, 0, 0), (11, 0, 4294967295)]
def E_c31 : e2_E := [(2147483648, 2147583648, 0, 0), (2147483652, 2147483668, 1, 0)]
noncomputable def f_c31 : ev_H := (cn583 : e2_Q8)
noncomputable def q_c31_0 : ev_H := (cn583 : e2_Q8)
noncomputable def rs_c31 : e2_Rs := [((11, 2147483649, 2147549184), q_c31_0)]
noncomputable def s_c31 : e2_Sm := (32, as_c31, E_c31, f_c31, rs_c31)
noncomputable def S_c31 : List e2_Sm := [s_c30]
noncomputable def I_c31 : List e2_In := []
set_option maxRecDepth 1000000 in
theorem ck_c31 : e2_run (e2_cal S_c31 I_c31 4000 0) (e2_fin rs_c31) e2x_32 (fun _ => false) (fun _ _ _ _ _ => false) 4000 (e2_seek e2x_32 0) (e2_al 6 as_c31) [] E_c31 f_c31 = true := by decide +kernel
set_option maxRecDepth 1000000 in
theorem co_c31 : e2_okSB E_c31.length as_c31 f_c31 rs_c31 = true := by decide +kernel
theorem cs_c31 (hen : en_ok) (l : Launch) : e2_smOk l 17 s_c31 := e2_con0 (H := 16) (n := 0) (C := evd_32) (S := S_c31) (I := I_c31) (fuel := 4000) [] hen ei_32 (e2_fa (cs_c30 hen l) e2_fz) e2_fz (by decide) co_c31 ex2_32 ck_c31
/-! c32 X1_setAgainst -/
def as_c32 : List ev_V := [(2, 77, 0), (11, 0, 4294967295)]
def E_c32 : e2_E := [(2147483648, 2147583648, 0, 0), (2147483652, 2147483668, 1, 0)]
noncomputable def f_c32 : ev_H := (cn583 : e2_Q8)
noncomputable def q_c32_0 : ev_H := (cn583 : e2_Q8)
noncomputable def rs_c32 : e2_Rs := [((9, 0, 0), q_c32_0)]
noncomputable def s_c32 : e2_Sm := (31, as_c32, E_c32, f_c32, rs_c32)
noncomputable def S_c32 : List e2_Sm := []
noncomputable def I_c32 : List e2_In := [(159, 2, e2x_159)]
set_option maxRecDepth 1000000 in
theorem co_c32 : e2_okSB E_c32.length as_c32 f_c32 rs_c32 = true := by decide +kernel
def al_c32_0 : List ev_V := [(2, 77, 0), (11, 0, 4294967295), (1, 2, 4294967296)]
def E_c32_0 : e2_E := [(2147483648, 2147583648, 0, 0), (2147483652, 2147483668, 1, 0), (2147483648, 2147483664, 2, 0)]
noncomputable def h_c32_0 : ev_H := (cn583 : e2_Q8)
noncomputable def cl_c32_e : List (Nat × e2_S) := [(2, e2_cutL (al_c32_0.set 2 (11, 2147483648, 2147483664)) 2 (E_c32_0.take 2) h_c32_0)]
set_option maxRecDepth 1000000 in
theorem ck_c32_e : e2_run (e2_cal S_c32 I_c32 4000 1) (e2_fin rs_c32) e2x_31 (e2_bpL cl_c32_e) (e2_cutA cl_c32_e) 4000 (e2_seek e2x_31 0) (e2_al 3 as_c32) [] E_c32 f_c32 = true := by decide +kernel
noncomputable def cl_c32_0 : List (Nat × e2_S) := [(2, e2_cutL (al_c32_0.set 2 (13, 10, 2147483664)) 2 (E_c32_0.take 2) h_c32_0)]
set_option maxRecDepth 1000000 in
theorem ck_c32_0 : e2_runM (e2_cal S_c32 I_c32 4000 1) (e2_fin rs_c32) e2x_31 (e2_bpL cl_c32_0) (e2_cutA cl_c32_0) 4000 (e2_seek e2x_31 2) al_c32_0 [] E_c32_0 h_c32_0 = true := by decide +kernel
set_option maxRecDepth 1000000 in
theorem ci_c32_0 : e2_idl 2 (al_c32_0.set 2 (9, 0, 0)) = true := by decide +kernel
set_option maxRecDepth 1000000 in
theorem cj_c32_0 : e2_idh 2 8 h_c32_0 = true := by decide +kernel
theorem cs_c32 (hen : en_ok) (l : Launch) : e2_smOk l 2 s_c32 := by
  refine e2_conG (H := 0) (n := 1) (C := evd_31) (S := S_c32) (I := I_c32) (fuel := 4000) hen ei_31 e2_fz (e2_fa ein_159 e2_fz) (by decide) co_c32 fun M d _ hC hcall p e R s m args below meth c Q D cA A ads r0 ha hl0 => ?_
  have L_0 : e2_gdM M p l e R s m args below meth c Q D cA A ads r0 2 al_c32_0 [] E_c32_0 h_c32_0 := by
    refine e2_indL (u := 2) (j := 2) (lo := 2147483648) (hi := 2147483664) (b := 2) (dd := 0) hl0 (by decide) rfl rfl (Or.inr ⟨rfl, rfl⟩) rfl ci_c32_0 cj_c32_0 ?_
    intro r_0 k_0 hk_0 hp_0 hs_0 hn_0
    have hl_0 : r_0.length ≤ 3 := hs_0.len rfl
    have ha_0 := ha.ext hp_0
    exact e2_fromM hen ha_0 hcall (e2_cutA_ok (e2_fa (fun al st E h hc => hn_0 al st E h hc) e2_fz)) (hC []) (X := e2x_31) ex2_31 2 ck_c32_0
  have EN_0 := e2_entL (u := 2) (j := 2) (lo := 2147483648) (hi := 2147483664) hl0 rfl rfl rfl ci_c32_0 cj_c32_0 L_0
  exact e2_from hen ha hcall (e2_cutA_ok (e2_fa (fun al st E h hc => EN_0 al st E h hc) e2_fz)) (hC []) (X := e2x_31) ex2_31 0 ck_c32_e
/-! c33 X1_grammars -/
def as_c33 : List ev_V := [(2, 77, 0), (11, 0, 4294967295), (11, 0, 4294967295)]
def E_c33 : e2_E := [(2147483648, 2147583648, 0, 0), (2147483652, 2147483668, 1, 0)]
def cn584 : e2_Q6 := (cn578, cn553)
def cn585 : e2_Q7 := (cn549, cn584)
def cn586 : e2_Q8 := (cn585, cn572)
noncomputable def f_c33 : ev_H := (cn586 : e2_Q8)
noncomputable def q_c33_0 : ev_H := (cn586 : e2_Q8)
noncomputable def rs_c33 : e2_Rs := [((11, 2147483648, 2147549184), q_c33_0)]
noncomputable def s_c33 : e2_Sm := (30, as_c33, E_c33, f_c33, rs_c33)
noncomputable def S_c33 : List e2_Sm := [s_c31, s_c32]
noncomputable def I_c33 : List e2_In := [(29, 3, e2x_29), (291, 1, e2x_291)]
set_option maxRecDepth 1000000 in
theorem co_c33 : e2_okSB E_c33.length as_c33 f_c33 rs_c33 = true := by decide +kernel
def al_c33_0 : List ev_V := [(2, 77, 0), (11, 0, 4294967295), (11, 0, 4294967295), (11, 0, 4294967295), (1, 2, 4294967296), (9, 0, 0), (9, 0, 0)]
def E_c33_0 : e2_E := [(2147483648, 2147583648, 0, 0), (2147483652, 2147483668, 1, 0), (2147483648, 2147483678, 2, 0)]
noncomputable def h_c33_0 : ev_H := (cn586 : e2_Q8)
def al_c33_1 : List ev_V := [(2, 77, 0), (11, 0, 4294967295), (11, 0, 4294967295), (11, 0, 4294967295), (1, 2, 4294967296), (9, 0, 0), (9, 0, 0)]
def E_c33_1 : e2_E := [(2147483648, 2147583648, 0, 0), (2147483652, 2147483668, 1, 0), (2147483648, 2147483664, 2, 0)]
noncomputable def h_c33_1 : ev_H := (cn586 : e2_Q8)
def al_c33_2 : List ev_V := [(2, 77, 0), (11, 0, 4294967295), (11, 0, 4294967295), (11, 0, 4294967295), (11, 0, 4294967295), (1, 2, 4294967296), (9, 0, 0)]
def E_c33_2 : e2_E := [(2147483648, 2147583648, 0, 0), (2147483652, 2147483668, 1, 0), (2147483648, 2147483678, 2, 0)]
noncomputable def h_c33_2 : ev_H := (cn586 : e2_Q8)
noncomputable def cl_c33_e : List (Nat × e2_S) := [(5, e2_cutL (al_c33_0.set 4 (11, 2147483648, 2147483678)) 2 (E_c33_0.take 2) h_c33_0)]
set_option maxRecDepth 1000000 in
theorem ck_c33_e : e2_run (e2_cal S_c33 I_c33 4000 1) (e2_fin rs_c33) e2x_30 (e2_bpL cl_c33_e) (e2_cutA cl_c33_e) 4000 (e2_seek e2x_30 0) (e2_al 7 as_c33) [] E_c33 f_c33 = true := by decide +kernel
noncomputable def cl_c33_0 : List (Nat × e2_S) := [(5, e2_cutL (al_c33_0.set 4 (13, 10, 2147483678)) 2 (E_c33_0.take 2) h_c33_0),
  (53, e2_cutL (al_c33_1.set 4 (11, 2147483648, 2147483664)) 2 (E_c33_1.take 2) h_c33_1)]
set_option maxRecDepth 1000000 in
theorem ck_c33_0 : e2_runM (e2_cal S_c33 I_c33 4000 1) (e2_fin rs_c33) e2x_30 (e2_bpL cl_c33_0) (e2_cutA cl_c33_0) 4000 (e2_seek e2x_30 5) al_c33_0 [] E_c33_0 h_c33_0 = true := by decide +kernel
set_option maxRecDepth 1000000 in
theorem ci_c33_0 : e2_idl 2 (al_c33_0.set 4 (9, 0, 0)) = true := by decide +kernel
set_option maxRecDepth 1000000 in
theorem cj_c33_0 : e2_idh 2 8 h_c33_0 = true := by decide +kernel
noncomputable def cl_c33_1 : List (Nat × e2_S) := [(53, e2_cutL (al_c33_1.set 4 (13, 10, 2147483664)) 2 (E_c33_1.take 2) h_c33_1),
  (96, e2_cutL (al_c33_2.set 5 (11, 2147483648, 2147483678)) 2 (E_c33_2.take 2) h_c33_2)]
set_option maxRecDepth 1000000 in
theorem ck_c33_1 : e2_runM (e2_cal S_c33 I_c33 4000 1) (e2_fin rs_c33) e2x_30 (e2_bpL cl_c33_1) (e2_cutA cl_c33_1) 4000 (e2_seek e2x_30 53) al_c33_1 [] E_c33_1 h_c33_1 = true := by decide +kernel
set_option maxRecDepth 1000000 in
theorem ci_c33_1 : e2_idl 2 (al_c33_1.set 4 (9, 0, 0)) = true := by decide +kernel
set_option maxRecDepth 1000000 in
theorem cj_c33_1 : e2_idh 2 8 h_c33_1 = true := by decide +kernel
noncomputable def cl_c33_2 : List (Nat × e2_S) := [(96, e2_cutL (al_c33_2.set 5 (13, 10, 2147483678)) 2 (E_c33_2.take 2) h_c33_2)]
set_option maxRecDepth 1000000 in
theorem ck_c33_2 : e2_runM (e2_cal S_c33 I_c33 4000 1) (e2_fin rs_c33) e2x_30 (e2_bpL cl_c33_2) (e2_cutA cl_c33_2) 4000 (e2_seek e2x_30 96) al_c33_2 [] E_c33_2 h_c33_2 = true := by decide +kernel
set_option maxRecDepth 1000000 in
theorem ci_c33_2 : e2_idl 2 (al_c33_2.set 5 (9, 0, 0)) = true := by decide +kernel
set_option maxRecDepth 1000000 in
theorem cj_c33_2 : e2_idh 2 8 h_c33_2 = true := by decide +kernel
theorem cs_c33 (hen : en_ok) (l : Launch) : e2_smOk l 19 s_c33 := by
  refine e2_conG (H := 17) (n := 1) (C := evd_30) (S := S_c33) (I := I_c33) (fuel := 4000) hen ei_30 (e2_fa (cs_c31 hen l) (e2_fa ((cs_c32 hen l).mono (by decide)) e2_fz)) (e2_fa ein_29 (e2_fa ein_291 e2_fz)) (by decide) co_c33 fun M d _ hC hcall p e R s m args below meth c Q D cA A ads r0 ha hl0 => ?_
  have L_2 : e2_gdM M p l e R s m args below meth c Q D cA A ads r0 96 al_c33_2 [] E_c33_2 h_c33_2 := by
    refine e2_indL (u := 2) (j := 5) (lo := 2147483648) (hi := 2147483678) (b := 2) (dd := 0) hl0 (by decide) rfl rfl (Or.inr ⟨rfl, rfl⟩) rfl ci_c33_2 cj_c33_2 ?_
    intro r_2 k_2 hk_2 hp_2 hs_2 hn_2
    have hl_2 : r_2.length ≤ 3 := hs_2.len rfl
    have ha_2 := ha.ext hp_2
    exact e2_fromM hen ha_2 hcall (e2_cutA_ok (e2_fa (fun al st E h hc => hn_2 al st E h hc) e2_fz)) (hC []) (X := e2x_30) ex2_30 96 ck_c33_2
  have EN_2 := e2_entL (u := 2) (j := 5) (lo := 2147483648) (hi := 2147483678) hl0 rfl rfl rfl ci_c33_2 cj_c33_2 L_2
  have L_1 : e2_gdM M p l e R s m args below meth c Q D cA A ads r0 53 al_c33_1 [] E_c33_1 h_c33_1 := by
    refine e2_indL (u := 2) (j := 4) (lo := 2147483648) (hi := 2147483664) (b := 2) (dd := 0) hl0 (by decide) rfl rfl (Or.inr ⟨rfl, rfl⟩) rfl ci_c33_1 cj_c33_1 ?_
    intro r_1 k_1 hk_1 hp_1 hs_1 hn_1
    have hl_1 : r_1.length ≤ 3 := hs_1.len rfl
    have ha_1 := ha.ext hp_1
    exact e2_fromM hen ha_1 hcall (e2_cutA_ok (e2_fa (fun al st E h hc => hn_1 al st E h hc) (e2_fa (fun al st E h hc => (EN_2 al st E h hc).ext hp_1) e2_fz))) (hC []) (X := e2x_30) ex2_30 53 ck_c33_1
  have EN_1 := e2_entL (u := 2) (j := 4) (lo := 2147483648) (hi := 2147483664) hl0 rfl rfl rfl ci_c33_1 cj_c33_1 L_1
  have L_0 : e2_gdM M p l e R s m args below meth c Q D cA A ads r0 5 al_c33_0 [] E_c33_0 h_c33_0 := by
    refine e2_indL (u := 2) (j := 4) (lo := 2147483648) (hi := 2147483678) (b := 2) (dd := 0) hl0 (by decide) rfl rfl (Or.inr ⟨rfl, rfl⟩) rfl ci_c33_0 cj_c33_0 ?_
    intro r_0 k_0 hk_0 hp_0 hs_0 hn_0
    have hl_0 : r_0.length ≤ 3 := hs_0.len rfl
    have ha_0 := ha.ext hp_0
    exact e2_fromM hen ha_0 hcall (e2_cutA_ok (e2_fa (fun al st E h hc => hn_0 al st E h hc) (e2_fa (fun al st E h hc => (EN_1 al st E h hc).ext hp_0) e2_fz))) (hC []) (X := e2x_30) ex2_30 5 ck_c33_0
  have EN_0 := e2_entL (u := 2) (j := 4) (lo := 2147483648) (hi := 2147483678) hl0 rfl rfl rfl ci_c33_0 cj_c33_0 L_0
  exact e2_from hen ha hcall (e2_cutA_ok (e2_fa (fun al st E h hc => EN_0 al st E h hc) e2_fz)) (hC []) (X := e2x_30) ex2_30 0 ck_c33_e
/-! c34 X1_certainty -/
def as_c34 : List ev_V := [(2, 77, 0), (11, 0, 4294967295), (11, 0, 4294967295), (11, 0, 4294967295)]
def E_c34 : e2_E := [(2147483648, 2147583648, 0, 0), (2147483652, 2147483668, 1, 0)]
noncomputable def f_c34 : ev_H := (cn586 : e2_Q8)
noncomputable def q_c34_0 : ev_H := (cn586 : e2_Q8)
noncomputable def rs_c34 : e2_Rs := [((11, 2147483646, 2147483649), q_c34_0)]
noncomputable def s_c34 : e2_Sm := (33, as_c34, E_c34, f_c34, rs_c34)
noncomputable def S_c34 : List e2_Sm := [s_c33]
noncomputable def I_c34 : List e2_In := [(24, 2, e2x_24), (25, 3, e2x_25)]
set_option maxRecDepth 1000000 in
theorem ck_c34 : e2_run (e2_cal S_c34 I_c34 4000 1) (e2_fin rs_c34) e2x_33 (fun _ => false) (fun _ _ _ _ _ => false) 4000 (e2_seek e2x_33 0) (e2_al 6 as_c34) [] E_c34 f_c34 = true := by decide +kernel
set_option maxRecDepth 1000000 in
theorem co_c34 : e2_okSB E_c34.length as_c34 f_c34 rs_c34 = true := by decide +kernel
theorem cs_c34 (hen : en_ok) (l : Launch) : e2_smOk l 21 s_c34 := e2_con0 (H := 19) (n := 1) (C := evd_33) (S := S_c34) (I := I_c34) (fuel := 4000) [] hen ei_33 (e2_fa (cs_c33 hen l) e2_fz) (e2_fa ein_24 (e2_fa ein_25 e2_fz)) (by decide) co_c34 ex2_33 ck_c34
/-! c35 X1_question -/
def as_c35 : List ev_V := [(2, 77, 0), (11, 0, 4294967295), (11, 0, 4294967295)]
def E_c35 : e2_E := [(2147483648, 2147583648, 0, 0), (2147483652, 2147483668, 1, 0)]
noncomputable def f_c35 : ev_H := (cn586 : e2_Q8)
noncomputable def q_c35_0 : ev_H := (cn586 : e2_Q8)
noncomputable def rs_c35 : e2_Rs := [((11, 2147483647, 2147549184), q_c35_0)]
noncomputable def s_c35 : e2_Sm := (34, as_c35, E_c35, f_c35, rs_c35)
noncomputable def S_c35 : List e2_Sm := [s_c33]
noncomputable def I_c35 : List e2_In := [(25, 3, e2x_25)]
set_option maxRecDepth 1000000 in
theorem co_c35 : e2_okSB E_c35.length as_c35 f_c35 rs_c35 = true := by decide +kernel
def al_c35_0 : List ev_V := [(2, 77, 0), (11, 2147483648, 2147483649), (11, 0, 4294967295), (11, 2147483649, 2147549184), (11, 2147483647, 2147483688), (11, 2147483648, 2147549184), (1, 2, 4294967296), (9, 0, 0), (9, 0, 0), (9, 0, 0)]
def E_c35_0 : e2_E := [(2147483648, 2147583648, 0, 0), (2147483652, 2147483668, 1, 0), (2147483648, 2147483652, 2, 0)]
noncomputable def h_c35_0 : ev_H := (cn586 : e2_Q8)
def al_c35_1 : List ev_V := [(2, 77, 0), (11, 2147483648, 2147483649), (11, 0, 4294967295), (11, 2147483649, 2147549184), (11, 2147483647, 2147483688), (11, 2147483648, 2147549184), (1, 2, 4294967296), (1, 3, 4294967296), (9, 0, 0), (9, 0, 0)]
def E_c35_1 : e2_E := [(2147483648, 2147583648, 0, 0), (2147483652, 2147483668, 1, 0), (2147483648, 2147483651, 2, 0), (2147483648, 2147483652, 3, 0)]
noncomputable def h_c35_1 : ev_H := (cn586 : e2_Q8)
noncomputable def cl_c35_e : List (Nat × e2_S) := [(38, e2_cutL (al_c35_0.set 6 (11, 2147483648, 2147483652)) 2 (E_c35_0.take 2) h_c35_0)]
set_option maxRecDepth 1000000 in
theorem ck_c35_e : e2_run (e2_cal S_c35 I_c35 4000 1) (e2_fin rs_c35) e2x_34 (e2_bpL cl_c35_e) (e2_cutA cl_c35_e) 4000 (e2_seek e2x_34 0) (e2_al 10 as_c35) [] E_c35 f_c35 = true := by decide +kernel
noncomputable def cl_c35_0 : List (Nat × e2_S) := [(50, e2_cutL (al_c35_1.set 7 (11, 2147483648, 2147483652)) 3 (E_c35_1.take 3) h_c35_1)]
set_option maxRecDepth 1000000 in
theorem ck_c35_0 : e2_runM (e2_cal S_c35 I_c35 4000 1) (e2_fin rs_c35) e2x_34 (e2_bpL cl_c35_0) (e2_cutA cl_c35_0) 4000 (e2_seek e2x_34 38) al_c35_0 [] E_c35_0 h_c35_0 = true := by decide +kernel
set_option maxRecDepth 1000000 in
theorem ci_c35_0 : e2_idl 2 (al_c35_0.set 6 (9, 0, 0)) = true := by decide +kernel
set_option maxRecDepth 1000000 in
theorem cj_c35_0 : e2_idh 2 8 h_c35_0 = true := by decide +kernel
noncomputable def cl_c35_1 : List (Nat × e2_S) := [(38, e2_cutL (al_c35_0.set 6 (13, 10, 2147483652)) 2 (E_c35_0.take 2) h_c35_0),
  (50, e2_cutL (al_c35_1.set 7 (13, 11, 2147483652)) 3 (E_c35_1.take 3) h_c35_1)]
set_option maxRecDepth 1000000 in
theorem ck_c35_1 : e2_runM (e2_cal S_c35 I_c35 4000 1) (e2_fin rs_c35) e2x_34 (e2_bpL cl_c35_1) (e2_cutA cl_c35_1) 4000 (e2_seek e2x_34 50) al_c35_1 [] E_c35_1 h_c35_1 = true := by decide +kernel
set_option maxRecDepth 1000000 in
theorem ci_c35_1 : e2_idl 3 (al_c35_1.set 7 (9, 0, 0)) = true := by decide +kernel
set_option maxRecDepth 1000000 in
theorem cj_c35_1 : e2_idh 3 8 h_c35_1 = true := by decide +kernel
theorem cs_c35 (hen : en_ok) (l : Launch) : e2_smOk l 21 s_c35 := by
  refine e2_conG (H := 19) (n := 1) (C := evd_34) (S := S_c35) (I := I_c35) (fuel := 4000) hen ei_34 (e2_fa (cs_c33 hen l) e2_fz) (e2_fa ein_25 e2_fz) (by decide) co_c35 fun M d _ hC hcall p e R s m args below meth c Q D cA A ads r0 ha hl0 => ?_
  have L_0 : e2_gdM M p l e R s m args below meth c Q D cA A ads r0 38 al_c35_0 [] E_c35_0 h_c35_0 := by
    refine e2_indL (u := 2) (j := 6) (lo := 2147483648) (hi := 2147483652) (b := 2) (dd := 0) hl0 (by decide) rfl rfl (Or.inr ⟨rfl, rfl⟩) rfl ci_c35_0 cj_c35_0 ?_
    intro r_0 k_0 hk_0 hp_0 hs_0 hn_0
    have hl_0 : r_0.length ≤ 3 := hs_0.len rfl
    have ha_0 := ha.ext hp_0
    have L_1 : e2_gdM M p l e R s m args below meth c Q D cA A ads r_0 50 al_c35_1 [] E_c35_1 h_c35_1 := by
      refine e2_indL (u := 3) (j := 7) (lo := 2147483648) (hi := 2147483652) (b := 3) (dd := 0) hl_0 (by decide) rfl rfl (Or.inr ⟨rfl, rfl⟩) rfl ci_c35_1 cj_c35_1 ?_
      intro r_1 k_1 hk_1 hp_1 hs_1 hn_1
      have hl_1 : r_1.length ≤ 4 := hs_1.len rfl
      have ha_1 := ha_0.ext hp_1
      exact e2_fromM hen ha_1 hcall (e2_cutA_ok (e2_fa (fun al st E h hc => (hn_0 al st E h hc).ext hp_1) (e2_fa (fun al st E h hc => hn_1 al st E h hc) e2_fz))) (hC []) (X := e2x_34) ex2_34 50 ck_c35_1
    have EN_1 := e2_entL (u := 3) (j := 7) (lo := 2147483648) (hi := 2147483652) hl_0 rfl rfl rfl ci_c35_1 cj_c35_1 L_1
    exact e2_fromM hen ha_0 hcall (e2_cutA_ok (e2_fa (fun al st E h hc => EN_1 al st E h hc) e2_fz)) (hC []) (X := e2x_34) ex2_34 38 ck_c35_0
  have EN_0 := e2_entL (u := 2) (j := 6) (lo := 2147483648) (hi := 2147483652) hl0 rfl rfl rfl ci_c35_0 cj_c35_0 L_0
  exact e2_from hen ha hcall (e2_cutA_ok (e2_fa (fun al st E h hc => EN_0 al st E h hc) e2_fz)) (hC []) (X := e2x_34) ex2_34 0 ck_c35_e
/-! c36 X7_readNumber -/
def as_c36 : List ev_V := [(2, 34, 0)]
def E_c36 : e2_E := [(2147483648, 2147583648, 0, 0), (2147483652, 2147483668, 1, 0)]
def cn587 : e2_Q8 := (cn269, cn253)
noncomputable def f_c36 : ev_H := (cn587 : e2_Q8)
noncomputable def q_c36_0 : ev_H := (cn587 : e2_Q8)
noncomputable def rs_c36 : e2_Rs := [((9, 0, 0), q_c36_0)]
noncomputable def s_c36 : e2_Sm := (113, as_c36, E_c36, f_c36, rs_c36)
noncomputable def S_c36 : List e2_Sm := []
noncomputable def I_c36 : List e2_In := []
set_option maxRecDepth 1000000 in
theorem co_c36 : e2_okSB E_c36.length as_c36 f_c36 rs_c36 = true := by decide +kernel
def al_c36_0 : List ev_V := [(2, 34, 0)]
def E_c36_0 : e2_E := [(2147483648, 2147583648, 0, 0), (2147483652, 2147483668, 1, 0), (2147483648, 2147485248, 2, 0)]
def cc169 : ev_C := (7, [(11, 2147483648, 2147485248), (2, 35, 0), (1, 2, 4294967296), (11, 2147483520, 2147483775), (11, 2147483648, 2147485248), (11, 0, 4294967295), (5, 0, 0), (11, 2147482048, 2147485248)])
def cn588 : e2_Q1 := (cc169, cc3)
def cn589 : e2_Q2 := (cn588, cn67)
def cn590 : e2_Q3 := (cn65, cn589)
def cn591 : e2_Q4 := (cn590, cn76)
def cn592 : e2_Q5 := (cn591, cn92)
def cn593 : e2_Q6 := (cn592, cn124)
def cn594 : e2_Q7 := (cn62, cn593)
def cn595 : e2_Q8 := (cn594, cn253)
noncomputable def h_c36_0 : ev_H := (cn595 : e2_Q8)
noncomputable def cl_c36_e : List (Nat × e2_S) := [(5, e2_cutL al_c36_0 2 (E_c36_0.take 2) (ev_hs h_c36_0 34 ((ev_hg h_c36_0 34).1, (ev_hg h_c36_0 34).2.set 2 (11, 2147483648, 2147485248))))]
set_option maxRecDepth 1000000 in
theorem ck_c36_e : e2_run (e2_cal S_c36 I_c36 4000 0) (e2_fin rs_c36) e2x_113 (e2_bpL cl_c36_e) (e2_cutA cl_c36_e) 4000 (e2_seek e2x_113 0) (e2_al 1 as_c36) [] E_c36 f_c36 = true := by decide +kernel
noncomputable def cl_c36_0 : List (Nat × e2_S) := [(5, e2_cutL al_c36_0 2 (E_c36_0.take 2) (ev_hs h_c36_0 34 ((ev_hg h_c36_0 34).1, (ev_hg h_c36_0 34).2.set 2 (13, 10, 2147485248))))]
set_option maxRecDepth 1000000 in
theorem ck_c36_0 : e2_runM (e2_cal S_c36 I_c36 4000 0) (e2_fin rs_c36) e2x_113 (e2_bpL cl_c36_0) (e2_cutA cl_c36_0) 4000 (e2_seek e2x_113 5) al_c36_0 [] E_c36_0 h_c36_0 = true := by decide +kernel
set_option maxRecDepth 1000000 in
theorem ci_c36_0 : e2_idl 2 al_c36_0 = true := by decide +kernel
set_option maxRecDepth 1000000 in
theorem cj_c36_0 : e2_idh 2 8 (ev_hs h_c36_0 34 ((ev_hg h_c36_0 34).1, (ev_hg h_c36_0 34).2.set 2 (7, 0, 0))) = true := by decide +kernel
set_option maxRecDepth 1000000 in
theorem cg_c36_0 : (ev_hg h_c36_0 34).1 < 50 ∧ (ev_hg h_c36_0 34).2[2]? = some (1, 2, 4294967296) := by decide +kernel
theorem cs_c36 (hen : en_ok) (l : Launch) : e2_smOk l 1 s_c36 := by
  refine e2_conG (H := 0) (n := 0) (C := evd_113) (S := S_c36) (I := I_c36) (fuel := 4000) hen ei_113 e2_fz e2_fz (by decide) co_c36 fun M d _ hC hcall p e R s m args below meth c Q D cA A ads r0 ha hl0 => ?_
  have L_0 : e2_gdM M p l e R s m args below meth c Q D cA A ads r0 5 al_c36_0 [] E_c36_0 h_c36_0 := by
    refine e2_indH (u := 2) (a := 34) (j := 2) (lo := 2147483648) (hi := 2147485248) (b := 2) (dd := 0) hl0 (by decide) rfl rfl (Or.inr ⟨rfl, rfl⟩) (by decide) cg_c36_0.1 cg_c36_0.2 ci_c36_0 cj_c36_0 rfl ?_
    intro r_0 k_0 hk_0 hp_0 hs_0 hn_0
    have hl_0 : r_0.length ≤ 3 := hs_0.len rfl
    have ha_0 := ha.ext hp_0
    exact e2_fromM hen ha_0 hcall (e2_cutA_ok (e2_fa (fun al st E h hc => hn_0 al st E h hc) e2_fz)) (hC []) (X := e2x_113) ex2_113 5 ck_c36_0
  have EN_0 := e2_entH (u := 2) (a := 34) (j := 2) (lo := 2147483648) (hi := 2147485248) hl0 rfl rfl (by decide) cg_c36_0.1 cg_c36_0.2 ci_c36_0 cj_c36_0 rfl L_0
  exact e2_from hen ha hcall (e2_cutA_ok (e2_fa (fun al st E h hc => EN_0 al st E h hc) e2_fz)) (hC []) (X := e2x_113) ex2_113 0 ck_c36_e
/-! c37 X7_readWord -/
def as_c37 : List ev_V := [(2, 34, 0)]
def E_c37 : e2_E := [(2147483648, 2147583648, 0, 0), (2147483652, 2147483668, 1, 0)]
noncomputable def f_c37 : ev_H := (cn587 : e2_Q8)
noncomputable def q_c37_0 : ev_H := (cn587 : e2_Q8)
noncomputable def rs_c37 : e2_Rs := [((9, 0, 0), q_c37_0)]
noncomputable def s_c37 : e2_Sm := (111, as_c37, E_c37, f_c37, rs_c37)
noncomputable def S_c37 : List e2_Sm := []
noncomputable def I_c37 : List e2_In := []
set_option maxRecDepth 1000000 in
theorem co_c37 : e2_okSB E_c37.length as_c37 f_c37 rs_c37 = true := by decide +kernel
def al_c37_0 : List ev_V := [(2, 34, 0)]
def E_c37_0 : e2_E := [(2147483648, 2147583648, 0, 0), (2147483652, 2147483668, 1, 0), (2147483648, 2147485248, 2, 0)]
noncomputable def h_c37_0 : ev_H := (cn595 : e2_Q8)
noncomputable def cl_c37_e : List (Nat × e2_S) := [(5, e2_cutL al_c37_0 2 (E_c37_0.take 2) (ev_hs h_c37_0 34 ((ev_hg h_c37_0 34).1, (ev_hg h_c37_0 34).2.set 2 (11, 2147483648, 2147485248))))]
set_option maxRecDepth 1000000 in
theorem ck_c37_e : e2_run (e2_cal S_c37 I_c37 4000 0) (e2_fin rs_c37) e2x_111 (e2_bpL cl_c37_e) (e2_cutA cl_c37_e) 4000 (e2_seek e2x_111 0) (e2_al 1 as_c37) [] E_c37 f_c37 = true := by decide +kernel
noncomputable def cl_c37_0 : List (Nat × e2_S) := [(5, e2_cutL al_c37_0 2 (E_c37_0.take 2) (ev_hs h_c37_0 34 ((ev_hg h_c37_0 34).1, (ev_hg h_c37_0 34).2.set 2 (13, 10, 2147485248))))]
set_option maxRecDepth 1000000 in
theorem ck_c37_0 : e2_runM (e2_cal S_c37 I_c37 4000 0) (e2_fin rs_c37) e2x_111 (e2_bpL cl_c37_0) (e2_cutA cl_c37_0) 4000 (e2_seek e2x_111 5) al_c37_0 [] E_c37_0 h_c37_0 = true := by decide +kernel
set_option maxRecDepth 1000000 in
theorem ci_c37_0 : e2_idl 2 al_c37_0 = true := by decide +kernel
set_option maxRecDepth 1000000 in
theorem cj_c37_0 : e2_idh 2 8 (ev_hs h_c37_0 34 ((ev_hg h_c37_0 34).1, (ev_hg h_c37_0 34).2.set 2 (7, 0, 0))) = true := by decide +kernel
set_option maxRecDepth 1000000 in
theorem cg_c37_0 : (ev_hg h_c37_0 34).1 < 50 ∧ (ev_hg h_c37_0 34).2[2]? = some (1, 2, 4294967296) := by decide +kernel
theorem cs_c37 (hen : en_ok) (l : Launch) : e2_smOk l 1 s_c37 := by
  refine e2_conG (H := 0) (n := 0) (C := evd_111) (S := S_c37) (I := I_c37) (fuel := 4000) hen ei_111 e2_fz e2_fz (by decide) co_c37 fun M d _ hC hcall p e R s m args below meth c Q D cA A ads r0 ha hl0 => ?_
  have L_0 : e2_gdM M p l e R s m args below meth c Q D cA A ads r0 5 al_c37_0 [] E_c37_0 h_c37_0 := by
    refine e2_indH (u := 2) (a := 34) (j := 2) (lo := 2147483648) (hi := 2147485248) (b := 2) (dd := 0) hl0 (by decide) rfl rfl (Or.inr ⟨rfl, rfl⟩) (by decide) cg_c37_0.1 cg_c37_0.2 ci_c37_0 cj_c37_0 rfl ?_
    intro r_0 k_0 hk_0 hp_0 hs_0 hn_0
    have hl_0 : r_0.length ≤ 3 := hs_0.len rfl
    have ha_0 := ha.ext hp_0
    exact e2_fromM hen ha_0 hcall (e2_cutA_ok (e2_fa (fun al st E h hc => hn_0 al st E h hc) e2_fz)) (hC []) (X := e2x_111) ex2_111 5 ck_c37_0
  have EN_0 := e2_entH (u := 2) (a := 34) (j := 2) (lo := 2147483648) (hi := 2147485248) hl0 rfl rfl (by decide) cg_c37_0.1 cg_c37_0.2 ci_c37_0 cj_c37_0 rfl L_0
  exact e2_from hen ha hcall (e2_cutA_ok (e2_fa (fun al st E h hc => EN_0 al st E h hc) e2_fz)) (hC []) (X := e2x_111) ex2_111 0 ck_c37_e
/-! c38 X7_advance -/
def as_c38 : List ev_V := [(2, 34, 0)]
def E_c38 : e2_E := [(2147483648, 2147583648, 0, 0), (2147483652, 2147483668, 1, 0)]
noncomputable def f_c38 : ev_H := (cn587 : e2_Q8)
noncomputable def q_c38_0 : ev_H := (cn587 : e2_Q8)
noncomputable def rs_c38 : e2_Rs := [((9, 0, 0), q_c38_0)]
noncomputable def s_c38 : e2_Sm := (108, as_c38, E_c38, f_c38, rs_c38)
noncomputable def S_c38 : List e2_Sm := [s_c1, s_c2, s_c36, s_c37]
noncomputable def I_c38 : List e2_In := [(109, 2, e2x_109), (110, 2, e2x_110)]
set_option maxRecDepth 1000000 in
theorem co_c38 : e2_okSB E_c38.length as_c38 f_c38 rs_c38 = true := by decide +kernel
def al_c38_0 : List ev_V := [(2, 34, 0)]
def E_c38_0 : e2_E := [(2147483648, 2147583648, 0, 0), (2147483652, 2147483668, 1, 0), (2147483648, 2147485248, 2, 0)]
noncomputable def h_c38_0 : ev_H := (cn595 : e2_Q8)
noncomputable def cl_c38_e : List (Nat × e2_S) := [(0, e2_cutL al_c38_0 2 (E_c38_0.take 2) (ev_hs h_c38_0 34 ((ev_hg h_c38_0 34).1, (ev_hg h_c38_0 34).2.set 2 (11, 2147483648, 2147485248))))]
set_option maxRecDepth 1000000 in
theorem ck_c38_e : e2_run (e2_cal S_c38 I_c38 4000 1) (e2_fin rs_c38) e2x_108 (e2_bpL cl_c38_e) (e2_cutA cl_c38_e) 4000 (e2_seek e2x_108 0) (e2_al 1 as_c38) [] E_c38 f_c38 = true := by decide +kernel
noncomputable def cl_c38_0 : List (Nat × e2_S) := [(0, e2_cutL al_c38_0 2 (E_c38_0.take 2) (ev_hs h_c38_0 34 ((ev_hg h_c38_0 34).1, (ev_hg h_c38_0 34).2.set 2 (13, 10, 2147485248))))]
set_option maxRecDepth 1000000 in
theorem ck_c38_0 : e2_runM (e2_cal S_c38 I_c38 4000 1) (e2_fin rs_c38) e2x_108 (e2_bpL cl_c38_0) (e2_cutA cl_c38_0) 4000 (e2_seek e2x_108 0) al_c38_0 [] E_c38_0 h_c38_0 = true := by decide +kernel
set_option maxRecDepth 1000000 in
theorem ci_c38_0 : e2_idl 2 al_c38_0 = true := by decide +kernel
set_option maxRecDepth 1000000 in
theorem cj_c38_0 : e2_idh 2 8 (ev_hs h_c38_0 34 ((ev_hg h_c38_0 34).1, (ev_hg h_c38_0 34).2.set 2 (7, 0, 0))) = true := by decide +kernel
set_option maxRecDepth 1000000 in
theorem cg_c38_0 : (ev_hg h_c38_0 34).1 < 50 ∧ (ev_hg h_c38_0 34).2[2]? = some (1, 2, 4294967296) := by decide +kernel
theorem cs_c38 (hen : en_ok) (l : Launch) (hh : e2_hand_c l) : e2_smOk l 62 s_c38 := by
  refine e2_conG (H := 60) (n := 1) (C := evd_108) (S := S_c38) (I := I_c38) (fuel := 4000) hen ei_108 (e2_fa (hh _ hm_c1) (e2_fa (hh _ hm_c2) (e2_fa ((cs_c36 hen l).mono (by decide)) (e2_fa ((cs_c37 hen l).mono (by decide)) e2_fz)))) (e2_fa ein_109 (e2_fa ein_110 e2_fz)) (by decide) co_c38 fun M d _ hC hcall p e R s m args below meth c Q D cA A ads r0 ha hl0 => ?_
  have L_0 : e2_gdM M p l e R s m args below meth c Q D cA A ads r0 0 al_c38_0 [] E_c38_0 h_c38_0 := by
    refine e2_indH (u := 2) (a := 34) (j := 2) (lo := 2147483648) (hi := 2147485248) (b := 2) (dd := 0) hl0 (by decide) rfl rfl (Or.inr ⟨rfl, rfl⟩) (by decide) cg_c38_0.1 cg_c38_0.2 ci_c38_0 cj_c38_0 rfl ?_
    intro r_0 k_0 hk_0 hp_0 hs_0 hn_0
    have hl_0 : r_0.length ≤ 3 := hs_0.len rfl
    have ha_0 := ha.ext hp_0
    exact e2_fromM hen ha_0 hcall (e2_cutA_ok (e2_fa (fun al st E h hc => hn_0 al st E h hc) e2_fz)) (hC []) (X := e2x_108) ex2_108 0 ck_c38_0
  have EN_0 := e2_entH (u := 2) (a := 34) (j := 2) (lo := 2147483648) (hi := 2147485248) hl0 rfl rfl (by decide) cg_c38_0.1 cg_c38_0.2 ci_c38_0 cj_c38_0 rfl L_0
  exact e2_from hen ha hcall (e2_cutA_ok (e2_fa (fun al st E h hc => EN_0 al st E h hc) e2_fz)) (hC []) (X := e2x_108) ex2_108 0 ck_c38_e
/-! c39 X3_expect -/
def as_c39 : List ev_V := [(2, 33, 0), (11, 2147483660, 2147483707)]
def E_c39 : e2_E := [(2147483648, 2147583648, 0, 0), (2147483652, 2147483668, 1, 0), (2147483648, 2147485248, 2, 0)]
def cc170 : ev_C := (3, [(2, 34, 0), (2, 1, 0), (1, 2, 4294967296), (11, 2147483648, 2147483649), (11, 0, 4294967295), (11, 0, 4294967295), (11, 0, 4294967295), (11, 0, 4294967295)])
def cn596 : e2_Q1 := (cc170, cc3)
def cn597 : e2_Q2 := (cn596, cn131)
def cn598 : e2_Q3 := (cn129, cn597)
def cn599 : e2_Q4 := (cn598, cn140)
def cn600 : e2_Q5 := (cn599, cn156)
def cn601 : e2_Q6 := (cn600, cn188)
def cn602 : e2_Q7 := (cn601, cn252)
def cn603 : e2_Q8 := (cn269, cn602)
noncomputable def f_c39 : ev_H := (cn603 : e2_Q8)
noncomputable def q_c39_0 : ev_H := (cn603 : e2_Q8)
noncomputable def rs_c39 : e2_Rs := [((11, 2147483648, 2147483649), q_c39_0)]
noncomputable def s_c39 : e2_Sm := (45, as_c39, E_c39, f_c39, rs_c39)
noncomputable def S_c39 : List e2_Sm := [s_c38]
noncomputable def I_c39 : List e2_In := [(43, 2, e2x_43), (44, 3, e2x_44)]
set_option maxRecDepth 1000000 in
theorem ck_c39 : e2_run (e2_cal S_c39 I_c39 4000 2) (e2_fin rs_c39) e2x_45 (fun _ => false) (fun _ _ _ _ _ => false) 4000 (e2_seek e2x_45 0) (e2_al 2 as_c39) [] E_c39 f_c39 = true := by decide +kernel
set_option maxRecDepth 1000000 in
theorem co_c39 : e2_okSB E_c39.length as_c39 f_c39 rs_c39 = true := by decide +kernel
theorem cs_c39 (hen : en_ok) (l : Launch) (hh : e2_hand_c l) : e2_smOk l 65 s_c39 := e2_con0 (H := 62) (n := 2) (C := evd_45) (S := S_c39) (I := I_c39) (fuel := 4000) [] hen ei_45 (e2_fa (cs_c38 hen l hh) e2_fz) (e2_fa ein_43 (e2_fa ein_44 e2_fz)) (by decide) co_c39 ex2_45 ck_c39
/-! c40 X3_parseBarn -/
def as_c40 : List ev_V := [(2, 33, 0)]
def E_c40 : e2_E := [(2147483648, 2147583648, 0, 0), (2147483652, 2147483668, 1, 0), (2147483648, 2147485248, 2, 0)]
def cn604 : e2_Q3 := (cn460, cn597)
def cn605 : e2_Q4 := (cn604, cn140)
def cn606 : e2_Q5 := (cn605, cn156)
def cn607 : e2_Q6 := (cn606, cn188)
def cn608 : e2_Q7 := (cn607, cn252)
def cn609 : e2_Q8 := (cn269, cn608)
noncomputable def f_c40 : ev_H := (cn609 : e2_Q8)
noncomputable def q_c40_0 : ev_H := (cn609 : e2_Q8)
noncomputable def rs_c40 : e2_Rs := [((11, 2147483648, 2147483649), q_c40_0)]
noncomputable def s_c40 : e2_Sm := (56, as_c40, E_c40, f_c40, rs_c40)
noncomputable def S_c40 : List e2_Sm := [s_c38, s_c39]
noncomputable def I_c40 : List e2_In := [(43, 2, e2x_43), (44, 3, e2x_44), (46, 3, e2x_46), (159, 2, e2x_159), (291, 1, e2x_291)]
set_option maxRecDepth 1000000 in
theorem ck_c40 : e2_run (e2_cal S_c40 I_c40 4000 3) (e2_fin rs_c40) e2x_56 (fun _ => false) (fun _ _ _ _ _ => false) 4000 (e2_seek e2x_56 0) (e2_al 1 as_c40) [] E_c40 f_c40 = true := by decide +kernel
set_option maxRecDepth 1000000 in
theorem co_c40 : e2_okSB E_c40.length as_c40 f_c40 rs_c40 = true := by decide +kernel
theorem cs_c40 (hen : en_ok) (l : Launch) (hh : e2_hand_c l) : e2_smOk l 69 s_c40 := e2_con0 (H := 65) (n := 3) (C := evd_56) (S := S_c40) (I := I_c40) (fuel := 4000) [] hen ei_56 (e2_fa ((cs_c38 hen l hh).mono (by decide)) (e2_fa (cs_c39 hen l hh) e2_fz)) (e2_fa ein_43 (e2_fa ein_44 (e2_fa ein_46 (e2_fa ein_159 (e2_fa ein_291 e2_fz))))) (by decide) co_c40 ex2_56 ck_c40
/-! c41 X3_passNumber -/
def as_c41 : List ev_V := [(2, 33, 0), (0, 0, 0), (0, 999, 0)]
def E_c41 : e2_E := [(2147483648, 2147583648, 0, 0), (2147483652, 2147483668, 1, 0), (2147483648, 2147485248, 2, 0)]
noncomputable def f_c41 : ev_H := (cn603 : e2_Q8)
def cc171 : ev_C := (3, [(2, 34, 0), (2, 1, 0), (1, 2, 4294967296), (11, 2147483648, 2147483649), (11, 0, 4294967295), (11, 0, 4294967295), (11, 2147483649, 2147483652), (11, 2147483648, 2147485248)])
def cn610 : e2_Q1 := (cc171, cc3)
def cn611 : e2_Q2 := (cn610, cn131)
def cn612 : e2_Q3 := (cn129, cn611)
def cn613 : e2_Q4 := (cn612, cn140)
def cn614 : e2_Q5 := (cn613, cn156)
def cn615 : e2_Q6 := (cn614, cn188)
def cn616 : e2_Q7 := (cn615, cn252)
def cn617 : e2_Q8 := (cn269, cn616)
noncomputable def q_c41_0 : ev_H := (cn617 : e2_Q8)
def cc172 : ev_C := (3, [(2, 34, 0), (2, 1, 0), (1, 2, 4294967296), (11, 2147483648, 2147483649), (11, 0, 4294967295), (11, 2147483648, 2147484647), (11, 0, 4294967295), (11, 0, 4294967295)])
def cn618 : e2_Q1 := (cc172, cc3)
def cn619 : e2_Q2 := (cn618, cn131)
def cn620 : e2_Q3 := (cn129, cn619)
def cn621 : e2_Q4 := (cn620, cn140)
def cn622 : e2_Q5 := (cn621, cn156)
def cn623 : e2_Q6 := (cn622, cn188)
def cn624 : e2_Q7 := (cn623, cn252)
def cn625 : e2_Q8 := (cn269, cn624)
noncomputable def q_c41_1 : ev_H := (cn625 : e2_Q8)
noncomputable def rs_c41 : e2_Rs := [((0, 0, 0), q_c41_0), ((0, 1, 0), q_c41_1)]
noncomputable def s_c41 : e2_Sm := (47, as_c41, E_c41, f_c41, rs_c41)
noncomputable def S_c41 : List e2_Sm := [s_c38]
noncomputable def I_c41 : List e2_In := [(43, 2, e2x_43), (44, 3, e2x_44), (46, 3, e2x_46)]
set_option maxRecDepth 1000000 in
theorem ck_c41 : e2_run (e2_cal S_c41 I_c41 4000 3) (e2_fin rs_c41) e2x_47 (fun _ => false) (fun _ _ _ _ _ => false) 4000 (e2_seek e2x_47 0) (e2_al 3 as_c41) [] E_c41 f_c41 = true := by decide +kernel
set_option maxRecDepth 1000000 in
theorem co_c41 : e2_okSB E_c41.length as_c41 f_c41 rs_c41 = true := by decide +kernel
theorem cs_c41 (hen : en_ok) (l : Launch) (hh : e2_hand_c l) : e2_smOk l 66 s_c41 := e2_con0 (H := 62) (n := 3) (C := evd_47) (S := S_c41) (I := I_c41) (fuel := 4000) [] hen ei_47 (e2_fa (cs_c38 hen l hh) e2_fz) (e2_fa ein_43 (e2_fa ein_44 (e2_fa ein_46 e2_fz))) (by decide) co_c41 ex2_47 ck_c41
/-! c42 X3_parseDraw -/
def as_c42 : List ev_V := [(2, 33, 0)]
def E_c42 : e2_E := [(2147483648, 2147583648, 0, 0), (2147483652, 2147483668, 1, 0), (2147483648, 2147485248, 2, 0)]
noncomputable def f_c42 : ev_H := (cn609 : e2_Q8)
noncomputable def q_c42_0 : ev_H := (cn609 : e2_Q8)
noncomputable def rs_c42 : e2_Rs := [((11, 2147483648, 2147483649), q_c42_0)]
noncomputable def s_c42 : e2_Sm := (57, as_c42, E_c42, f_c42, rs_c42)
noncomputable def S_c42 : List e2_Sm := [s_c38, s_c39, s_c41]
noncomputable def I_c42 : List e2_In := [(43, 2, e2x_43), (44, 3, e2x_44)]
set_option maxRecDepth 1000000 in
theorem ck_c42 : e2_run (e2_cal S_c42 I_c42 4000 2) (e2_fin rs_c42) e2x_57 (fun _ => false) (fun _ _ _ _ _ => false) 4000 (e2_seek e2x_57 0) (e2_al 1 as_c42) [] E_c42 f_c42 = true := by decide +kernel
set_option maxRecDepth 1000000 in
theorem co_c42 : e2_okSB E_c42.length as_c42 f_c42 rs_c42 = true := by decide +kernel
theorem cs_c42 (hen : en_ok) (l : Launch) (hh : e2_hand_c l) : e2_smOk l 69 s_c42 := e2_con0 (H := 66) (n := 2) (C := evd_57) (S := S_c42) (I := I_c42) (fuel := 4000) [] hen ei_57 (e2_fa ((cs_c38 hen l hh).mono (by decide)) (e2_fa ((cs_c39 hen l hh).mono (by decide)) (e2_fa (cs_c41 hen l hh) e2_fz))) (e2_fa ein_43 (e2_fa ein_44 e2_fz)) (by decide) co_c42 ex2_57 ck_c42
/-! c43 X3_parseUnit -/
def as_c43 : List ev_V := [(2, 33, 0), (2, 11, 0), (0, 7, 0)]
def E_c43 : e2_E := [(2147483648, 2147583648, 0, 0), (2147483652, 2147483668, 1, 0), (2147483648, 2147485248, 2, 0)]
def cn626 : e2_Q2 := (cn480, cn47)
def cn627 : e2_Q3 := (cn626, cn51)
def cn628 : e2_Q4 := (cn627, cn59)
def cn629 : e2_Q5 := (cn45, cn628)
def cn630 : e2_Q6 := (cn30, cn629)
def cn631 : e2_Q7 := (cn630, cn268)
def cc173 : ev_C := (0, [(2, 12, 0), (2, 13, 0), (11, 0, 4294967295), (11, 2147483648, 2147483948)])
def cn632 : e2_Q1 := (cc173, cc3)
def cn633 : e2_Q2 := (cn632, cn206)
def cn634 : e2_Q3 := (cn633, cn210)
def cn635 : e2_Q4 := (cn634, cn218)
def cn636 : e2_Q5 := (cn204, cn635)
def cn637 : e2_Q6 := (cn636, cn251)
def cn638 : e2_Q7 := (cn607, cn637)
def cn639 : e2_Q8 := (cn631, cn638)
noncomputable def f_c43 : ev_H := (cn639 : e2_Q8)
noncomputable def q_c43_0 : ev_H := (cn639 : e2_Q8)
noncomputable def rs_c43 : e2_Rs := [((11, 2147483648, 2147483649), q_c43_0)]
noncomputable def s_c43 : e2_Sm := (62, as_c43, E_c43, f_c43, rs_c43)
noncomputable def S_c43 : List e2_Sm := [s_c38]
noncomputable def I_c43 : List e2_In := [(18, 2, e2x_18), (19, 2, e2x_19), (20, 2, e2x_20), (43, 2, e2x_43), (44, 3, e2x_44)]
set_option maxRecDepth 1000000 in
theorem ck_c43 : e2_run (e2_cal S_c43 I_c43 4000 2) (e2_fin rs_c43) e2x_62 (fun _ => false) (fun _ _ _ _ _ => false) 4000 (e2_seek e2x_62 0) (e2_al 7 as_c43) [] E_c43 f_c43 = true := by decide +kernel
set_option maxRecDepth 1000000 in
theorem co_c43 : e2_okSB E_c43.length as_c43 f_c43 rs_c43 = true := by decide +kernel
theorem cs_c43 (hen : en_ok) (l : Launch) (hh : e2_hand_c l) : e2_smOk l 65 s_c43 := e2_con0 (H := 62) (n := 2) (C := evd_62) (S := S_c43) (I := I_c43) (fuel := 4000) [] hen ei_62 (e2_fa (cs_c38 hen l hh) e2_fz) (e2_fa ein_18 (e2_fa ein_19 (e2_fa ein_20 (e2_fa ein_43 (e2_fa ein_44 e2_fz))))) (by decide) co_c43 ex2_62 ck_c43
/-! c44 X3_parseLevel -/
def as_c44 : List ev_V := [(2, 33, 0), (2, 11, 0), (0, 5, 0), (0, 7, 0)]
def E_c44 : e2_E := [(2147483648, 2147583648, 0, 0), (2147483652, 2147483668, 1, 0), (2147483648, 2147485248, 2, 0)]
noncomputable def f_c44 : ev_H := (cn639 : e2_Q8)
noncomputable def q_c44_0 : ev_H := (cn639 : e2_Q8)
noncomputable def rs_c44 : e2_Rs := [((11, 2147483648, 2147483649), q_c44_0)]
noncomputable def s_c44 : e2_Sm := (59, as_c44, E_c44, f_c44, rs_c44)
noncomputable def S_c44 : List e2_Sm := [s_c43]
noncomputable def I_c44 : List e2_In := []
set_option maxRecDepth 1000000 in
theorem ck_c44 : e2_run (e2_cal S_c44 I_c44 4000 0) (e2_fin rs_c44) e2x_59 (fun _ => false) (fun _ _ _ _ _ => false) 4000 (e2_seek e2x_59 0) (e2_al 7 as_c44) [] E_c44 f_c44 = true := by decide +kernel
set_option maxRecDepth 1000000 in
theorem co_c44 : e2_okSB E_c44.length as_c44 f_c44 rs_c44 = true := by decide +kernel
theorem cs_c44 (hen : en_ok) (l : Launch) (hh : e2_hand_c l) : e2_smOk l 66 s_c44 := e2_con0 (H := 65) (n := 0) (C := evd_59) (S := S_c44) (I := I_c44) (fuel := 4000) [] hen ei_59 (e2_fa (cs_c43 hen l hh) e2_fz) e2_fz (by decide) co_c44 ex2_59 ck_c44
/-! c45 X3_parseLevel -/
def as_c45 : List ev_V := [(2, 33, 0), (2, 11, 0), (0, 4, 0), (0, 7, 0)]
def E_c45 : e2_E := [(2147483648, 2147583648, 0, 0), (2147483652, 2147483668, 1, 0), (2147483648, 2147485248, 2, 0)]
noncomputable def f_c45 : ev_H := (cn639 : e2_Q8)
noncomputable def q_c45_0 : ev_H := (cn639 : e2_Q8)
noncomputable def rs_c45 : e2_Rs := [((11, 2147483648, 2147483649), q_c45_0)]
noncomputable def s_c45 : e2_Sm := (59, as_c45, E_c45, f_c45, rs_c45)
noncomputable def S_c45 : List e2_Sm := [s_c38, s_c44]
noncomputable def I_c45 : List e2_In := [(19, 2, e2x_19), (20, 2, e2x_20), (60, 1, e2x_60)]
set_option maxRecDepth 1000000 in
theorem co_c45 : e2_okSB E_c45.length as_c45 f_c45 rs_c45 = true := by decide +kernel
def al_c45_0 : List ev_V := [(2, 33, 0), (2, 11, 0), (0, 4, 0), (0, 7, 0), (0, 30, 0), (1, 3, 4294967296), (9, 0, 0)]
def E_c45_0 : e2_E := [(2147483648, 2147583648, 0, 0), (2147483652, 2147483668, 1, 0), (2147483648, 2147485248, 2, 0), (2147483648, 2147483678, 3, 0)]
noncomputable def h_c45_0 : ev_H := (cn639 : e2_Q8)
noncomputable def cl_c45_e : List (Nat × e2_S) := [(66, e2_cutL (al_c45_0.set 5 (11, 2147483648, 2147483678)) 3 (E_c45_0.take 3) h_c45_0)]
set_option maxRecDepth 1000000 in
theorem ck_c45_e : e2_run (e2_cal S_c45 I_c45 4000 2) (e2_fin rs_c45) e2x_59 (e2_bpL cl_c45_e) (e2_cutA cl_c45_e) 4000 (e2_seek e2x_59 0) (e2_al 7 as_c45) [] E_c45 f_c45 = true := by decide +kernel
noncomputable def cl_c45_0 : List (Nat × e2_S) := [(66, e2_cutL (al_c45_0.set 5 (13, 11, 2147483678)) 3 (E_c45_0.take 3) h_c45_0)]
set_option maxRecDepth 1000000 in
theorem ck_c45_0 : e2_runM (e2_cal S_c45 I_c45 4000 2) (e2_fin rs_c45) e2x_59 (e2_bpL cl_c45_0) (e2_cutA cl_c45_0) 4000 (e2_seek e2x_59 66) al_c45_0 [] E_c45_0 h_c45_0 = true := by decide +kernel
set_option maxRecDepth 1000000 in
theorem ci_c45_0 : e2_idl 3 (al_c45_0.set 5 (9, 0, 0)) = true := by decide +kernel
set_option maxRecDepth 1000000 in
theorem cj_c45_0 : e2_idh 3 8 h_c45_0 = true := by decide +kernel
theorem cs_c45 (hen : en_ok) (l : Launch) (hh : e2_hand_c l) : e2_smOk l 69 s_c45 := by
  refine e2_conG (H := 66) (n := 2) (C := evd_59) (S := S_c45) (I := I_c45) (fuel := 4000) hen ei_59 (e2_fa ((cs_c38 hen l hh).mono (by decide)) (e2_fa (cs_c44 hen l hh) e2_fz)) (e2_fa ein_19 (e2_fa ein_20 (e2_fa ein_60 e2_fz))) (by decide) co_c45 fun M d _ hC hcall p e R s m args below meth c Q D cA A ads r0 ha hl0 => ?_
  have L_0 : e2_gdM M p l e R s m args below meth c Q D cA A ads r0 66 al_c45_0 [] E_c45_0 h_c45_0 := by
    refine e2_indL (u := 3) (j := 5) (lo := 2147483648) (hi := 2147483678) (b := 3) (dd := 0) hl0 (by decide) rfl rfl (Or.inr ⟨rfl, rfl⟩) rfl ci_c45_0 cj_c45_0 ?_
    intro r_0 k_0 hk_0 hp_0 hs_0 hn_0
    have hl_0 : r_0.length ≤ 4 := hs_0.len rfl
    have ha_0 := ha.ext hp_0
    exact e2_fromM hen ha_0 hcall (e2_cutA_ok (e2_fa (fun al st E h hc => hn_0 al st E h hc) e2_fz)) (hC []) (X := e2x_59) ex2_59 66 ck_c45_0
  have EN_0 := e2_entL (u := 3) (j := 5) (lo := 2147483648) (hi := 2147483678) hl0 rfl rfl rfl ci_c45_0 cj_c45_0 L_0
  exact e2_from hen ha hcall (e2_cutA_ok (e2_fa (fun al st E h hc => EN_0 al st E h hc) e2_fz)) (hC []) (X := e2x_59) ex2_59 0 ck_c45_e
/-! c46 X3_parseLevel -/
def as_c46 : List ev_V := [(2, 33, 0), (2, 11, 0), (0, 3, 0), (0, 7, 0)]
def E_c46 : e2_E := [(2147483648, 2147583648, 0, 0), (2147483652, 2147483668, 1, 0), (2147483648, 2147485248, 2, 0)]
noncomputable def f_c46 : ev_H := (cn639 : e2_Q8)
noncomputable def q_c46_0 : ev_H := (cn639 : e2_Q8)
noncomputable def rs_c46 : e2_Rs := [((11, 2147483648, 2147483649), q_c46_0)]
noncomputable def s_c46 : e2_Sm := (59, as_c46, E_c46, f_c46, rs_c46)
noncomputable def S_c46 : List e2_Sm := [s_c38, s_c45]
noncomputable def I_c46 : List e2_In := [(19, 2, e2x_19), (20, 2, e2x_20), (60, 1, e2x_60)]
set_option maxRecDepth 1000000 in
theorem co_c46 : e2_okSB E_c46.length as_c46 f_c46 rs_c46 = true := by decide +kernel
def al_c46_0 : List ev_V := [(2, 33, 0), (2, 11, 0), (0, 3, 0), (0, 7, 0), (0, 30, 0), (1, 3, 4294967296), (9, 0, 0)]
def E_c46_0 : e2_E := [(2147483648, 2147583648, 0, 0), (2147483652, 2147483668, 1, 0), (2147483648, 2147485248, 2, 0), (2147483648, 2147483678, 3, 0)]
noncomputable def h_c46_0 : ev_H := (cn639 : e2_Q8)
noncomputable def cl_c46_e : List (Nat × e2_S) := [(66, e2_cutL (al_c46_0.set 5 (11, 2147483648, 2147483678)) 3 (E_c46_0.take 3) h_c46_0)]
set_option maxRecDepth 1000000 in
theorem ck_c46_e : e2_run (e2_cal S_c46 I_c46 4000 2) (e2_fin rs_c46) e2x_59 (e2_bpL cl_c46_e) (e2_cutA cl_c46_e) 4000 (e2_seek e2x_59 0) (e2_al 7 as_c46) [] E_c46 f_c46 = true := by decide +kernel
noncomputable def cl_c46_0 : List (Nat × e2_S) := [(66, e2_cutL (al_c46_0.set 5 (13, 11, 2147483678)) 3 (E_c46_0.take 3) h_c46_0)]
set_option maxRecDepth 1000000 in
theorem ck_c46_0 : e2_runM (e2_cal S_c46 I_c46 4000 2) (e2_fin rs_c46) e2x_59 (e2_bpL cl_c46_0) (e2_cutA cl_c46_0) 4000 (e2_seek e2x_59 66) al_c46_0 [] E_c46_0 h_c46_0 = true := by decide +kernel
set_option maxRecDepth 1000000 in
theorem ci_c46_0 : e2_idl 3 (al_c46_0.set 5 (9, 0, 0)) = true := by decide +kernel
set_option maxRecDepth 1000000 in
theorem cj_c46_0 : e2_idh 3 8 h_c46_0 = true := by decide +kernel
theorem cs_c46 (hen : en_ok) (l : Launch) (hh : e2_hand_c l) : e2_smOk l 72 s_c46 := by
  refine e2_conG (H := 69) (n := 2) (C := evd_59) (S := S_c46) (I := I_c46) (fuel := 4000) hen ei_59 (e2_fa ((cs_c38 hen l hh).mono (by decide)) (e2_fa (cs_c45 hen l hh) e2_fz)) (e2_fa ein_19 (e2_fa ein_20 (e2_fa ein_60 e2_fz))) (by decide) co_c46 fun M d _ hC hcall p e R s m args below meth c Q D cA A ads r0 ha hl0 => ?_
  have L_0 : e2_gdM M p l e R s m args below meth c Q D cA A ads r0 66 al_c46_0 [] E_c46_0 h_c46_0 := by
    refine e2_indL (u := 3) (j := 5) (lo := 2147483648) (hi := 2147483678) (b := 3) (dd := 0) hl0 (by decide) rfl rfl (Or.inr ⟨rfl, rfl⟩) rfl ci_c46_0 cj_c46_0 ?_
    intro r_0 k_0 hk_0 hp_0 hs_0 hn_0
    have hl_0 : r_0.length ≤ 4 := hs_0.len rfl
    have ha_0 := ha.ext hp_0
    exact e2_fromM hen ha_0 hcall (e2_cutA_ok (e2_fa (fun al st E h hc => hn_0 al st E h hc) e2_fz)) (hC []) (X := e2x_59) ex2_59 66 ck_c46_0
  have EN_0 := e2_entL (u := 3) (j := 5) (lo := 2147483648) (hi := 2147483678) hl0 rfl rfl rfl ci_c46_0 cj_c46_0 L_0
  exact e2_from hen ha hcall (e2_cutA_ok (e2_fa (fun al st E h hc => EN_0 al st E h hc) e2_fz)) (hC []) (X := e2x_59) ex2_59 0 ck_c46_e
/-! c47 X3_parseNot -/
def as_c47 : List ev_V := [(2, 33, 0), (2, 11, 0), (0, 7, 0)]
def E_c47 : e2_E := [(2147483648, 2147583648, 0, 0), (2147483652, 2147483668, 1, 0), (2147483648, 2147485248, 2, 0)]
def cn640 : e2_Q7 := (cn601, cn275)
def cn641 : e2_Q8 := (cn269, cn640)
noncomputable def f_c47 : ev_H := (cn641 : e2_Q8)
noncomputable def q_c47_0 : ev_H := (cn641 : e2_Q8)
noncomputable def rs_c47 : e2_Rs := [((0, 0, 0), q_c47_0)]
noncomputable def s_c47 : e2_Sm := (61, as_c47, E_c47, f_c47, rs_c47)
noncomputable def S_c47 : List e2_Sm := []
noncomputable def I_c47 : List e2_In := [(43, 2, e2x_43), (44, 3, e2x_44)]
set_option maxRecDepth 1000000 in
theorem ck_c47 : e2_run (e2_cal S_c47 I_c47 4000 2) (e2_fin rs_c47) e2x_61 (fun _ => false) (fun _ _ _ _ _ => false) 4000 (e2_seek e2x_61 0) (e2_al 3 as_c47) [] E_c47 f_c47 = true := by decide +kernel
set_option maxRecDepth 1000000 in
theorem co_c47 : e2_okSB E_c47.length as_c47 f_c47 rs_c47 = true := by decide +kernel
theorem cs_c47 (hen : en_ok) (l : Launch) : e2_smOk l 3 s_c47 := e2_con0 (H := 0) (n := 2) (C := evd_61) (S := S_c47) (I := I_c47) (fuel := 4000) [] hen ei_61 e2_fz (e2_fa ein_43 (e2_fa ein_44 e2_fz)) (by decide) co_c47 ex2_61 ck_c47
/-! c48 X3_parseLevel -/
def as_c48 : List ev_V := [(2, 33, 0), (2, 11, 0), (0, 2, 0), (0, 7, 0)]
def E_c48 : e2_E := [(2147483648, 2147583648, 0, 0), (2147483652, 2147483668, 1, 0), (2147483648, 2147485248, 2, 0)]
noncomputable def f_c48 : ev_H := (cn639 : e2_Q8)
noncomputable def q_c48_0 : ev_H := (cn639 : e2_Q8)
noncomputable def rs_c48 : e2_Rs := [((11, 2147483648, 2147483649), q_c48_0)]
noncomputable def s_c48 : e2_Sm := (59, as_c48, E_c48, f_c48, rs_c48)
noncomputable def S_c48 : List e2_Sm := [s_c38, s_c46, s_c47]
noncomputable def I_c48 : List e2_In := [(19, 2, e2x_19), (20, 2, e2x_20), (60, 1, e2x_60)]
set_option maxRecDepth 1000000 in
theorem co_c48 : e2_okSB E_c48.length as_c48 f_c48 rs_c48 = true := by decide +kernel
def al_c48_0 : List ev_V := [(2, 33, 0), (2, 11, 0), (0, 2, 0), (0, 7, 0), (0, 1, 0), (1, 3, 4294967296), (9, 0, 0)]
def E_c48_0 : e2_E := [(2147483648, 2147583648, 0, 0), (2147483652, 2147483668, 1, 0), (2147483648, 2147485248, 2, 0), (2147483648, 2147483649, 3, 0)]
noncomputable def h_c48_0 : ev_H := (cn639 : e2_Q8)
noncomputable def cl_c48_e : List (Nat × e2_S) := [(66, e2_cutL (al_c48_0.set 5 (11, 2147483648, 2147483649)) 3 (E_c48_0.take 3) h_c48_0)]
set_option maxRecDepth 1000000 in
theorem ck_c48_e : e2_run (e2_cal S_c48 I_c48 4000 2) (e2_fin rs_c48) e2x_59 (e2_bpL cl_c48_e) (e2_cutA cl_c48_e) 4000 (e2_seek e2x_59 0) (e2_al 7 as_c48) [] E_c48 f_c48 = true := by decide +kernel
noncomputable def cl_c48_0 : List (Nat × e2_S) := [(66, e2_cutL (al_c48_0.set 5 (13, 11, 2147483649)) 3 (E_c48_0.take 3) h_c48_0)]
set_option maxRecDepth 1000000 in
theorem ck_c48_0 : e2_runM (e2_cal S_c48 I_c48 4000 2) (e2_fin rs_c48) e2x_59 (e2_bpL cl_c48_0) (e2_cutA cl_c48_0) 4000 (e2_seek e2x_59 66) al_c48_0 [] E_c48_0 h_c48_0 = true := by decide +kernel
set_option maxRecDepth 1000000 in
theorem ci_c48_0 : e2_idl 3 (al_c48_0.set 5 (9, 0, 0)) = true := by decide +kernel
set_option maxRecDepth 1000000 in
theorem cj_c48_0 : e2_idh 3 8 h_c48_0 = true := by decide +kernel
theorem cs_c48 (hen : en_ok) (l : Launch) (hh : e2_hand_c l) : e2_smOk l 75 s_c48 := by
  refine e2_conG (H := 72) (n := 2) (C := evd_59) (S := S_c48) (I := I_c48) (fuel := 4000) hen ei_59 (e2_fa ((cs_c38 hen l hh).mono (by decide)) (e2_fa (cs_c46 hen l hh) (e2_fa ((cs_c47 hen l).mono (by decide)) e2_fz))) (e2_fa ein_19 (e2_fa ein_20 (e2_fa ein_60 e2_fz))) (by decide) co_c48 fun M d _ hC hcall p e R s m args below meth c Q D cA A ads r0 ha hl0 => ?_
  have L_0 : e2_gdM M p l e R s m args below meth c Q D cA A ads r0 66 al_c48_0 [] E_c48_0 h_c48_0 := by
    refine e2_indL (u := 3) (j := 5) (lo := 2147483648) (hi := 2147483649) (b := 3) (dd := 0) hl0 (by decide) rfl rfl (Or.inr ⟨rfl, rfl⟩) rfl ci_c48_0 cj_c48_0 ?_
    intro r_0 k_0 hk_0 hp_0 hs_0 hn_0
    have hl_0 : r_0.length ≤ 4 := hs_0.len rfl
    have ha_0 := ha.ext hp_0
    exact e2_fromM hen ha_0 hcall (e2_cutA_ok (e2_fa (fun al st E h hc => hn_0 al st E h hc) e2_fz)) (hC []) (X := e2x_59) ex2_59 66 ck_c48_0
  have EN_0 := e2_entL (u := 3) (j := 5) (lo := 2147483648) (hi := 2147483649) hl0 rfl rfl rfl ci_c48_0 cj_c48_0 L_0
  exact e2_from hen ha hcall (e2_cutA_ok (e2_fa (fun al st E h hc => EN_0 al st E h hc) e2_fz)) (hC []) (X := e2x_59) ex2_59 0 ck_c48_e
/-! c49 X3_parseLevel -/
def as_c49 : List ev_V := [(2, 33, 0), (2, 11, 0), (0, 1, 0), (0, 7, 0)]
def E_c49 : e2_E := [(2147483648, 2147583648, 0, 0), (2147483652, 2147483668, 1, 0), (2147483648, 2147485248, 2, 0)]
noncomputable def f_c49 : ev_H := (cn639 : e2_Q8)
noncomputable def q_c49_0 : ev_H := (cn639 : e2_Q8)
noncomputable def rs_c49 : e2_Rs := [((11, 2147483648, 2147483649), q_c49_0)]
noncomputable def s_c49 : e2_Sm := (59, as_c49, E_c49, f_c49, rs_c49)
noncomputable def S_c49 : List e2_Sm := [s_c38, s_c48]
noncomputable def I_c49 : List e2_In := [(19, 2, e2x_19), (20, 2, e2x_20), (60, 1, e2x_60)]
set_option maxRecDepth 1000000 in
theorem co_c49 : e2_okSB E_c49.length as_c49 f_c49 rs_c49 = true := by decide +kernel
def al_c49_0 : List ev_V := [(2, 33, 0), (2, 11, 0), (0, 1, 0), (0, 7, 0), (0, 30, 0), (1, 3, 4294967296), (9, 0, 0)]
def E_c49_0 : e2_E := [(2147483648, 2147583648, 0, 0), (2147483652, 2147483668, 1, 0), (2147483648, 2147485248, 2, 0), (2147483648, 2147483678, 3, 0)]
noncomputable def h_c49_0 : ev_H := (cn639 : e2_Q8)
noncomputable def cl_c49_e : List (Nat × e2_S) := [(66, e2_cutL (al_c49_0.set 5 (11, 2147483648, 2147483678)) 3 (E_c49_0.take 3) h_c49_0)]
set_option maxRecDepth 1000000 in
theorem ck_c49_e : e2_run (e2_cal S_c49 I_c49 4000 2) (e2_fin rs_c49) e2x_59 (e2_bpL cl_c49_e) (e2_cutA cl_c49_e) 4000 (e2_seek e2x_59 0) (e2_al 7 as_c49) [] E_c49 f_c49 = true := by decide +kernel
noncomputable def cl_c49_0 : List (Nat × e2_S) := [(66, e2_cutL (al_c49_0.set 5 (13, 11, 2147483678)) 3 (E_c49_0.take 3) h_c49_0)]
set_option maxRecDepth 1000000 in
theorem ck_c49_0 : e2_runM (e2_cal S_c49 I_c49 4000 2) (e2_fin rs_c49) e2x_59 (e2_bpL cl_c49_0) (e2_cutA cl_c49_0) 4000 (e2_seek e2x_59 66) al_c49_0 [] E_c49_0 h_c49_0 = true := by decide +kernel
set_option maxRecDepth 1000000 in
theorem ci_c49_0 : e2_idl 3 (al_c49_0.set 5 (9, 0, 0)) = true := by decide +kernel
set_option maxRecDepth 1000000 in
theorem cj_c49_0 : e2_idh 3 8 h_c49_0 = true := by decide +kernel
theorem cs_c49 (hen : en_ok) (l : Launch) (hh : e2_hand_c l) : e2_smOk l 78 s_c49 := by
  refine e2_conG (H := 75) (n := 2) (C := evd_59) (S := S_c49) (I := I_c49) (fuel := 4000) hen ei_59 (e2_fa ((cs_c38 hen l hh).mono (by decide)) (e2_fa (cs_c48 hen l hh) e2_fz)) (e2_fa ein_19 (e2_fa ein_20 (e2_fa ein_60 e2_fz))) (by decide) co_c49 fun M d _ hC hcall p e R s m args below meth c Q D cA A ads r0 ha hl0 => ?_
  have L_0 : e2_gdM M p l e R s m args below meth c Q D cA A ads r0 66 al_c49_0 [] E_c49_0 h_c49_0 := by
    refine e2_indL (u := 3) (j := 5) (lo := 2147483648) (hi := 2147483678) (b := 3) (dd := 0) hl0 (by decide) rfl rfl (Or.inr ⟨rfl, rfl⟩) rfl ci_c49_0 cj_c49_0 ?_
    intro r_0 k_0 hk_0 hp_0 hs_0 hn_0
    have hl_0 : r_0.length ≤ 4 := hs_0.len rfl
    have ha_0 := ha.ext hp_0
    exact e2_fromM hen ha_0 hcall (e2_cutA_ok (e2_fa (fun al st E h hc => hn_0 al st E h hc) e2_fz)) (hC []) (X := e2x_59) ex2_59 66 ck_c49_0
  have EN_0 := e2_entL (u := 3) (j := 5) (lo := 2147483648) (hi := 2147483678) hl0 rfl rfl rfl ci_c49_0 cj_c49_0 L_0
  exact e2_from hen ha hcall (e2_cutA_ok (e2_fa (fun al st E h hc => EN_0 al st E h hc) e2_fz)) (hC []) (X := e2x_59) ex2_59 0 ck_c49_e
/-! c50 X3_parseLevel -/
def as_c50 : List ev_V := [(2, 33, 0), (2, 11, 0), (0, 0, 0), (0, 7, 0)]
def E_c50 : e2_E := [(2147483648, 2147583648, 0, 0), (2147483652, 2147483668, 1, 0), (2147483648, 2147485248, 2, 0)]
noncomputable def f_c50 : ev_H := (cn639 : e2_Q8)
noncomputable def q_c50_0 : ev_H := (cn639 : e2_Q8)
noncomputable def rs_c50 : e2_Rs := [((11, 2147483648, 2147483649), q_c50_0)]
noncomputable def s_c50 : e2_Sm := (59, as_c50, E_c50, f_c50, rs_c50)
noncomputable def S_c50 : List e2_Sm := [s_c38, s_c49]
noncomputable def I_c50 : List e2_In := [(19, 2, e2x_19), (20, 2, e2x_20), (60, 1, e2x_60)]
set_option maxRecDepth 1000000 in
theorem co_c50 : e2_okSB E_c50.length as_c50 f_c50 rs_c50 = true := by decide +kernel
def al_c50_0 : List ev_V := [(2, 33, 0), (2, 11, 0), (0, 0, 0), (0, 7, 0), (0, 30, 0), (1, 3, 4294967296), (9, 0, 0)]
def E_c50_0 : e2_E := [(2147483648, 2147583648, 0, 0), (2147483652, 2147483668, 1, 0), (2147483648, 2147485248, 2, 0), (2147483648, 2147483678, 3, 0)]
noncomputable def h_c50_0 : ev_H := (cn639 : e2_Q8)
noncomputable def cl_c50_e : List (Nat × e2_S) := [(66, e2_cutL (al_c50_0.set 5 (11, 2147483648, 2147483678)) 3 (E_c50_0.take 3) h_c50_0)]
set_option maxRecDepth 1000000 in
theorem ck_c50_e : e2_run (e2_cal S_c50 I_c50 4000 2) (e2_fin rs_c50) e2x_59 (e2_bpL cl_c50_e) (e2_cutA cl_c50_e) 4000 (e2_seek e2x_59 0) (e2_al 7 as_c50) [] E_c50 f_c50 = true := by decide +kernel
noncomputable def cl_c50_0 : List (Nat × e2_S) := [(66, e2_cutL (al_c50_0.set 5 (13, 11, 2147483678)) 3 (E_c50_0.take 3) h_c50_0)]
set_option maxRecDepth 1000000 in
theorem ck_c50_0 : e2_runM (e2_cal S_c50 I_c50 4000 2) (e2_fin rs_c50) e2x_59 (e2_bpL cl_c50_0) (e2_cutA cl_c50_0) 4000 (e2_seek e2x_59 66) al_c50_0 [] E_c50_0 h_c50_0 = true := by decide +kernel
set_option maxRecDepth 1000000 in
theorem ci_c50_0 : e2_idl 3 (al_c50_0.set 5 (9, 0, 0)) = true := by decide +kernel
set_option maxRecDepth 1000000 in
theorem cj_c50_0 : e2_idh 3 8 h_c50_0 = true := by decide +kernel
theorem cs_c50 (hen : en_ok) (l : Launch) (hh : e2_hand_c l) : e2_smOk l 81 s_c50 := by
  refine e2_conG (H := 78) (n := 2) (C := evd_59) (S := S_c50) (I := I_c50) (fuel := 4000) hen ei_59 (e2_fa ((cs_c38 hen l hh).mono (by decide)) (e2_fa (cs_c49 hen l hh) e2_fz)) (e2_fa ein_19 (e2_fa ein_20 (e2_fa ein_60 e2_fz))) (by decide) co_c50 fun M d _ hC hcall p e R s m args below meth c Q D cA A ads r0 ha hl0 => ?_
  have L_0 : e2_gdM M p l e R s m args below meth c Q D cA A ads r0 66 al_c50_0 [] E_c50_0 h_c50_0 := by
    refine e2_indL (u := 3) (j := 5) (lo := 2147483648) (hi := 2147483678) (b := 3) (dd := 0) hl0 (by decide) rfl rfl (Or.inr ⟨rfl, rfl⟩) rfl ci_c50_0 cj_c50_0 ?_
    intro r_0 k_0 hk_0 hp_0 hs_0 hn_0
    have hl_0 : r_0.length ≤ 4 := hs_0.len rfl
    have ha_0 := ha.ext hp_0
    exact e2_fromM hen ha_0 hcall (e2_cutA_ok (e2_fa (fun al st E h hc => hn_0 al st E h hc) e2_fz)) (hC []) (X := e2x_59) ex2_59 66 ck_c50_0
  have EN_0 := e2_entL (u := 3) (j := 5) (lo := 2147483648) (hi := 2147483678) hl0 rfl rfl rfl ci_c50_0 cj_c50_0 L_0
  exact e2_from hen ha hcall (e2_cutA_ok (e2_fa (fun al st E h hc => EN_0 al st E h hc) e2_fz)) (hC []) (X := e2x_59) ex2_59 0 ck_c50_e
/-! c51 X3_parseUnit -/
def as_c51 : List ev_V := [(2, 33, 0), (2, 11, 0), (0, 6, 0)]
def E_c51 : e2_E := [(2147483648, 2147583648, 0, 0), (2147483652, 2147483668, 1, 0), (2147483648, 2147485248, 2, 0)]
noncomputable def f_c51 : ev_H := (cn639 : e2_Q8)
noncomputable def q_c51_0 : ev_H := (cn639 : e2_Q8)
noncomputable def rs_c51 : e2_Rs := [((11, 2147483648, 2147483649), q_c51_0)]
noncomputable def s_c51 : e2_Sm := (62, as_c51, E_c51, f_c51, rs_c51)
noncomputable def S_c51 : List e2_Sm := [s_c38, s_c39, s_c50]
noncomputable def I_c51 : List e2_In := [(18, 2, e2x_18), (19, 2, e2x_19), (20, 2, e2x_20), (43, 2, e2x_43), (44, 3, e2x_44)]
set_option maxRecDepth 1000000 in
theorem ck_c51 : e2_run (e2_cal S_c51 I_c51 4000 2) (e2_fin rs_c51) e2x_62 (fun _ => false) (fun _ _ _ _ _ => false) 4000 (e2_seek e2x_62 0) (e2_al 7 as_c51) [] E_c51 f_c51 = true := by decide +kernel
set_option maxRecDepth 1000000 in
theorem co_c51 : e2_okSB E_c51.length as_c51 f_c51 rs_c51 = true := by decide +kernel
theorem cs_c51 (hen : en_ok) (l : Launch) (hh : e2_hand_c l) : e2_smOk l 84 s_c51 := e2_con0 (H := 81) (n := 2) (C := evd_62) (S := S_c51) (I := I_c51) (fuel := 4000) [] hen ei_62 (e2_fa ((cs_c38 hen l hh).mono (by decide)) (e2_fa ((cs_c39 hen l hh).mono (by decide)) (e2_fa (cs_c50 hen l hh) e2_fz))) (e2_fa ein_18 (e2_fa ein_19 (e2_fa ein_20 (e2_fa ein_43 (e2_fa ein_44 e2_fz))))) (by decide) co_c51 ex2_62 ck_c51
/-! c52 X3_parseLevel -/
def as_c52 : List ev_V := [(2, 33, 0), (2, 11, 0), (0, 5, 0), (0, 6, 0)]
def E_c52 : e2_E := [(2147483648, 2147583648, 0, 0), (2147483652, 2147483668, 1, 0), (2147483648, 2147485248, 2, 0)]
noncomputable def f_c52 : ev_H := (cn639 : e2_Q8)
noncomputable def q_c52_0 : ev_H := (cn639 : e2_Q8)
noncomputable def rs_c52 : e2_Rs := [((11, 2147483648, 2147483649), q_c52_0)]
noncomputable def s_c52 : e2_Sm := (59, as_c52, E_c52, f_c52, rs_c52)
noncomputable def S_c52 : List e2_Sm := [s_c51]
noncomputable def I_c52 : List e2_In := []
set_option maxRecDepth 1000000 in
theorem ck_c52 : e2_run (e2_cal S_c52 I_c52 4000 0) (e2_fin rs_c52) e2x_59 (fun _ => false) (fun _ _ _ _ _ => false) 4000 (e2_seek e2x_59 0) (e2_al 7 as_c52) [] E_c52 f_c52 = true := by decide +kernel
set_option maxRecDepth 1000000 in
theorem co_c52 : e2_okSB E_c52.length as_c52 f_c52 rs_c52 = true := by decide +kernel
theorem cs_c52 (hen : en_ok) (l : Launch) (hh : e2_hand_c l) : e2_smOk l 85 s_c52 := e2_con0 (H := 84) (n := 0) (C := evd_59) (S := S_c52) (I := I_c52) (fuel := 4000) [] hen ei_59 (e2_fa (cs_c51 hen l hh) e2_fz) e2_fz (by decide) co_c52 ex2_59 ck_c52
/-! c53 X3_parseLevel -/
def as_c53 : List ev_V := [(2, 33, 0), (2, 11, 0), (0, 4, 0), (0, 6, 0)]
def E_c53 : e2_E := [(2147483648, 2147583648, 0, 0), (2147483652, 2147483668, 1, 0), (2147483648, 2147485248, 2, 0)]
noncomputable def f_c53 : ev_H := (cn639 : e2_Q8)
noncomputable def q_c53_0 : ev_H := (cn639 : e2_Q8)
noncomputable def rs_c53 : e2_Rs := [((11, 2147483648, 2147483649), q_c53_0)]
noncomputable def s_c53 : e2_Sm := (59, as_c53, E_c53, f_c53, rs_c53)
noncomputable def S_c53 : List e2_Sm := [s_c38, s_c52]
noncomputable def I_c53 : List e2_In := [(19, 2, e2x_19), (20, 2, e2x_20), (60, 1, e2x_60)]
set_option maxRecDepth 1000000 in
theorem co_c53 : e2_okSB E_c53.length as_c53 f_c53 rs_c53 = true := by decide +kernel
def al_c53_0 : List ev_V := [(2, 33, 0), (2, 11, 0), (0, 4, 0), (0, 6, 0), (0, 30, 0), (1, 3, 4294967296), (9, 0, 0)]
def E_c53_0 : e2_E := [(2147483648, 2147583648, 0, 0), (2147483652, 2147483668, 1, 0), (2147483648, 2147485248, 2, 0), (2147483648, 2147483678, 3, 0)]
noncomputable def h_c53_0 : ev_H := (cn639 : e2_Q8)
noncomputable def cl_c53_e : List (Nat × e2_S) := [(66, e2_cutL (al_c53_0.set 5 (11, 2147483648, 2147483678)) 3 (E_c53_0.take 3) h_c53_0)]
set_option maxRecDepth 1000000 in
theorem ck_c53_e : e2_run (e2_cal S_c53 I_c53 4000 2) (e2_fin rs_c53) e2x_59 (e2_bpL cl_c53_e) (e2_cutA cl_c53_e) 4000 (e2_seek e2x_59 0) (e2_al 7 as_c53) [] E_c53 f_c53 = true := by decide +kernel
noncomputable def cl_c53_0 : List (Nat × e2_S) := [(66, e2_cutL (al_c53_0.set 5 (13, 11, 2147483678)) 3 (E_c53_0.take 3) h_c53_0)]
set_option maxRecDepth 1000000 in
theorem ck_c53_0 : e2_runM (e2_cal S_c53 I_c53 4000 2) (e2_fin rs_c53) e2x_59 (e2_bpL cl_c53_0) (e2_cutA cl_c53_0) 4000 (e2_seek e2x_59 66) al_c53_0 [] E_c53_0 h_c53_0 = true := by decide +kernel
set_option maxRecDepth 1000000 in
theorem ci_c53_0 : e2_idl 3 (al_c53_0.set 5 (9, 0, 0)) = true := by decide +kernel
set_option maxRecDepth 1000000 in
theorem cj_c53_0 : e2_idh 3 8 h_c53_0 = true := by decide +kernel
theorem cs_c53 (hen : en_ok) (l : Launch) (hh : e2_hand_c l) : e2_smOk l 88 s_c53 := by
  refine e2_conG (H := 85) (n := 2) (C := evd_59) (S := S_c53) (I := I_c53) (fuel := 4000) hen ei_59 (e2_fa ((cs_c38 hen l hh).mono (by decide)) (e2_fa (cs_c52 hen l hh) e2_fz)) (e2_fa ein_19 (e2_fa ein_20 (e2_fa ein_60 e2_fz))) (by decide) co_c53 fun M d _ hC hcall p e R s m args below meth c Q D cA A ads r0 ha hl0 => ?_
  have L_0 : e2_gdM M p l e R s m args below meth c Q D cA A ads r0 66 al_c53_0 [] E_c53_0 h_c53_0 := by
    refine e2_indL (u := 3) (j := 5) (lo := 2147483648) (hi := 2147483678) (b := 3) (dd := 0) hl0 (by decide) rfl rfl (Or.inr ⟨rfl, rfl⟩) rfl ci_c53_0 cj_c53_0 ?_
    intro r_0 k_0 hk_0 hp_0 hs_0 hn_0
    have hl_0 : r_0.length ≤ 4 := hs_0.len rfl
    have ha_0 := ha.ext hp_0
    exact e2_fromM hen ha_0 hcall (e2_cutA_ok (e2_fa (fun al st E h hc => hn_0 al st E h hc) e2_fz)) (hC []) (X := e2x_59) ex2_59 66 ck_c53_0
  have EN_0 := e2_entL (u := 3) (j := 5) (lo := 2147483648) (hi := 2147483678) hl0 rfl rfl rfl ci_c53_0 cj_c53_0 L_0
  exact e2_from hen ha hcall (e2_cutA_ok (e2_fa (fun al st E h hc => EN_0 al st E h hc) e2_fz)) (hC []) (X := e2x_59) ex2_59 0 ck_c53_e
/-! c54 X3_parseLevel -/
def as_c54 : List ev_V := [(2, 33, 0), (2, 11, 0), (0, 3, 0), (0, 6, 0)]
def E_c54 : e2_E := [(2147483648, 2147583648, 0, 0), (2147483652, 2147483668, 1, 0), (2147483648, 2147485248, 2, 0)]
noncomputable def f_c54 : ev_H := (cn639 : e2_Q8)
noncomputable def q_c54_0 : ev_H := (cn639 : e2_Q8)
noncomputable def rs_c54 : e2_Rs := [((11, 2147483648, 2147483649), q_c54_0)]
noncomputable def s_c54 : e2_Sm := (59, as_c54, E_c54, f_c54, rs_c54)
noncomputable def S_c54 : List e2_Sm := [s_c38, s_c53]
noncomputable def I_c54 : List e2_In := [(19, 2, e2x_19), (20, 2, e2x_20), (60, 1, e2x_60)]
set_option maxRecDepth 1000000 in
theorem co_c54 : e2_okSB E_c54.length as_c54 f_c54 rs_c54 = true := by decide +kernel
def al_c54_0 : List ev_V := [(2, 33, 0), (2, 11, 0), (0, 3, 0), (0, 6, 0), (0, 30, 0), (1, 3, 4294967296), (9, 0, 0)]
def E_c54_0 : e2_E := [(2147483648, 2147583648, 0, 0), (2147483652, 2147483668, 1, 0), (2147483648, 2147485248, 2, 0), (2147483648, 2147483678, 3, 0)]
noncomputable def h_c54_0 : ev_H := (cn639 : e2_Q8)
noncomputable def cl_c54_e : List (Nat × e2_S) := [(66, e2_cutL (al_c54_0.set 5 (11, 2147483648, 2147483678)) 3 (E_c54_0.take 3) h_c54_0)]
set_option maxRecDepth 1000000 in
theorem ck_c54_e : e2_run (e2_cal S_c54 I_c54 4000 2) (e2_fin rs_c54) e2x_59 (e2_bpL cl_c54_e) (e2_cutA cl_c54_e) 4000 (e2_seek e2x_59 0) (e2_al 7 as_c54) [] E_c54 f_c54 = true := by decide +kernel
noncomputable def cl_c54_0 : List (Nat × e2_S) := [(66, e2_cutL (al_c54_0.set 5 (13, 11, 2147483678)) 3 (E_c54_0.take 3) h_c54_0)]
set_option maxRecDepth 1000000 in
theorem ck_c54_0 : e2_runM (e2_cal S_c54 I_c54 4000 2) (e2_fin rs_c54) e2x_59 (e2_bpL cl_c54_0) (e2_cutA cl_c54_0) 4000 (e2_seek e2x_59 66) al_c54_0 [] E_c54_0 h_c54_0 = true := by decide +kernel
set_option maxRecDepth 1000000 in
theorem ci_c54_0 : e2_idl 3 (al_c54_0.set 5 (9, 0, 0)) = true := by decide +kernel
set_option maxRecDepth 1000000 in
theorem cj_c54_0 : e2_idh 3 8 h_c54_0 = true := by decide +kernel
theorem cs_c54 (hen : en_ok) (l : Launch) (hh : e2_hand_c l) : e2_smOk l 91 s_c54 := by
  refine e2_conG (H := 88) (n := 2) (C := evd_59) (S := S_c54) (I := I_c54) (fuel := 4000) hen ei_59 (e2_fa ((cs_c38 hen l hh).mono (by decide)) (e2_fa (cs_c53 hen l hh) e2_fz)) (e2_fa ein_19 (e2_fa ein_20 (e2_fa ein_60 e2_fz))) (by decide) co_c54 fun M d _ hC hcall p e R s m args below meth c Q D cA A ads r0 ha hl0 => ?_
  have L_0 : e2_gdM M p l e R s m args below meth c Q D cA A ads r0 66 al_c54_0 [] E_c54_0 h_c54_0 := by
    refine e2_indL (u := 3) (j := 5) (lo := 2147483648) (hi := 2147483678) (b := 3) (dd := 0) hl0 (by decide) rfl rfl (Or.inr ⟨rfl, rfl⟩) rfl ci_c54_0 cj_c54_0 ?_
    intro r_0 k_0 hk_0 hp_0 hs_0 hn_0
    have hl_0 : r_0.length ≤ 4 := hs_0.len rfl
    have ha_0 := ha.ext hp_0
    exact e2_fromM hen ha_0 hcall (e2_cutA_ok (e2_fa (fun al st E h hc => hn_0 al st E h hc) e2_fz)) (hC []) (X := e2x_59) ex2_59 66 ck_c54_0
  have EN_0 := e2_entL (u := 3) (j := 5) (lo := 2147483648) (hi := 2147483678) hl0 rfl rfl rfl ci_c54_0 cj_c54_0 L_0
  exact e2_from hen ha hcall (e2_cutA_ok (e2_fa (fun al st E h hc => EN_0 al st E h hc) e2_fz)) (hC []) (X := e2x_59) ex2_59 0 ck_c54_e
/-! c55 X3_parseNot -/
def as_c55 : List ev_V := [(2, 33, 0), (2, 11, 0), (0, 6, 0)]
def E_c55 : e2_E := [(2147483648, 2147583648, 0, 0), (2147483652, 2147483668, 1, 0), (2147483648, 2147485248, 2, 0)]
noncomputable def f_c55 : ev_H := (cn639 : e2_Q8)
noncomputable def q_c55_0 : ev_H := (cn639 : e2_Q8)
noncomputable def rs_c55 : e2_Rs := [((11, 2147483648, 2147483649), q_c55_0)]
noncomputable def s_c55 : e2_Sm := (61, as_c55, E_c55, f_c55, rs_c55)
noncomputable def S_c55 : List e2_Sm := [s_c38, s_c48]
noncomputable def I_c55 : List e2_In := [(19, 2, e2x_19), (20, 2, e2x_20)]
set_option maxRecDepth 1000000 in
theorem ck_c55 : e2_run (e2_cal S_c55 I_c55 4000 2) (e2_fin rs_c55) e2x_61 (fun _ => false) (fun _ _ _ _ _ => false) 4000 (e2_seek e2x_61 0) (e2_al 3 as_c55) [] E_c55 f_c55 = true := by decide +kernel
set_option maxRecDepth 1000000 in
theorem co_c55 : e2_okSB E_c55.length as_c55 f_c55 rs_c55 = true := by decide +kernel
theorem cs_c55 (hen : en_ok) (l : Launch) (hh : e2_hand_c l) : e2_smOk l 78 s_c55 := e2_con0 (H := 75) (n := 2) (C := evd_61) (S := S_c55) (I := I_c55) (fuel := 4000) [] hen ei_61 (e2_fa ((cs_c38 hen l hh).mono (by decide)) (e2_fa (cs_c48 hen l hh) e2_fz)) (e2_fa ein_19 (e2_fa ein_20 e2_fz)) (by decide) co_c55 ex2_61 ck_c55
/-! c56 X3_parseLevel -/
def as_c56 : List ev_V := [(2, 33, 0), (2, 11, 0), (0, 2, 0), (0, 6, 0)]
def E_c56 : e2_E := [(2147483648, 2147583648, 0, 0), (2147483652, 2147483668, 1, 0), (2147483648, 2147485248, 2, 0)]
noncomputable def f_c56 : ev_H := (cn639 : e2_Q8)
noncomputable def q_c56_0 : ev_H := (cn639 : e2_Q8)
noncomputable def rs_c56 : e2_Rs := [((11, 2147483648, 2147483649), q_c56_0)]
noncomputable def s_c56 : e2_Sm := (59, as_c56, E_c56, f_c56, rs_c56)
noncomputable def S_c56 : List e2_Sm := [s_c38, s_c54, s_c55]
noncomputable def I_c56 : List e2_In := [(19, 2, e2x_19), (20, 2, e2x_20), (60, 1, e2x_60)]
set_option maxRecDepth 1000000 in
theorem co_c56 : e2_okSB E_c56.length as_c56 f_c56 rs_c56 = true := by decide +kernel
def al_c56_0 : List ev_V := [(2, 33, 0), (2, 11, 0), (0, 2, 0), (0, 6, 0), (0, 1, 0), (1, 3, 4294967296), (9, 0, 0)]
def E_c56_0 : e2_E := [(2147483648, 2147583648, 0, 0), (2147483652, 2147483668, 1, 0), (2147483648, 2147485248, 2, 0), (2147483648, 2147483649, 3, 0)]
noncomputable def h_c56_0 : ev_H := (cn639 : e2_Q8)
noncomputable def cl_c56_e : List (Nat × e2_S) := [(66, e2_cutL (al_c56_0.set 5 (11, 2147483648, 2147483649)) 3 (E_c56_0.take 3) h_c56_0)]
set_option maxRecDepth 1000000 in
theorem ck_c56_e : e2_run (e2_cal S_c56 I_c56 4000 2) (e2_fin rs_c56) e2x_59 (e2_bpL cl_c56_e) (e2_cutA cl_c56_e) 4000 (e2_seek e2x_59 0) (e2_al 7 as_c56) [] E_c56 f_c56 = true := by decide +kernel
noncomputable def cl_c56_0 : List (Nat × e2_S) := [(66, e2_cutL (al_c56_0.set 5 (13, 11, 2147483649)) 3 (E_c56_0.take 3) h_c56_0)]
set_option maxRecDepth 1000000 in
theorem ck_c56_0 : e2_runM (e2_cal S_c56 I_c56 4000 2) (e2_fin rs_c56) e2x_59 (e2_bpL cl_c56_0) (e2_cutA cl_c56_0) 4000 (e2_seek e2x_59 66) al_c56_0 [] E_c56_0 h_c56_0 = true := by decide +kernel
set_option maxRecDepth 1000000 in
theorem ci_c56_0 : e2_idl 3 (al_c56_0.set 5 (9, 0, 0)) = true := by decide +kernel
set_option maxRecDepth 1000000 in
theorem cj_c56_0 : e2_idh 3 8 h_c56_0 = true := by decide +kernel
theorem cs_c56 (hen : en_ok) (l : Launch) (hh : e2_hand_c l) : e2_smOk l 94 s_c56 := by
  refine e2_conG (H := 91) (n := 2) (C := evd_59) (S := S_c56) (I := I_c56) (fuel := 4000) hen ei_59 (e2_fa ((cs_c38 hen l hh).mono (by decide)) (e2_fa (cs_c54 hen l hh) (e2_fa ((cs_c55 hen l hh).mono (by decide)) e2_fz))) (e2_fa ein_19 (e2_fa ein_20 (e2_fa ein_60 e2_fz))) (by decide) co_c56 fun M d _ hC hcall p e R s m args below meth c Q D cA A ads r0 ha hl0 => ?_
  have L_0 : e2_gdM M p l e R s m args below meth c Q D cA A ads r0 66 al_c56_0 [] E_c56_0 h_c56_0 := by
    refine e2_indL (u := 3) (j := 5) (lo := 2147483648) (hi := 2147483649) (b := 3) (dd := 0) hl0 (by decide) rfl rfl (Or.inr ⟨rfl, rfl⟩) rfl ci_c56_0 cj_c56_0 ?_
    intro r_0 k_0 hk_0 hp_0 hs_0 hn_0
    have hl_0 : r_0.length ≤ 4 := hs_0.len rfl
    have ha_0 := ha.ext hp_0
    exact e2_fromM hen ha_0 hcall (e2_cutA_ok (e2_fa (fun al st E h hc => hn_0 al st E h hc) e2_fz)) (hC []) (X := e2x_59) ex2_59 66 ck_c56_0
  have EN_0 := e2_entL (u := 3) (j := 5) (lo := 2147483648) (hi := 2147483649) hl0 rfl rfl rfl ci_c56_0 cj_c56_0 L_0
  exact e2_from hen ha hcall (e2_cutA_ok (e2_fa (fun al st E h hc => EN_0 al st E h hc) e2_fz)) (hC []) (X := e2x_59) ex2_59 0 ck_c56_e
/-! c57 X3_parseLevel -/
def as_c57 : List ev_V := [(2, 33, 0), (2, 11, 0), (0, 1, 0), (0, 6, 0)]
def E_c57 : e2_E := [(2147483648, 2147583648, 0, 0), (2147483652, 2147483668, 1, 0), (2147483648, 2147485248, 2, 0)]
noncomputable def f_c57 : ev_H := (cn639 : e2_Q8)
noncomputable def q_c57_0 : ev_H := (cn639 : e2_Q8)
noncomputable def rs_c57 : e2_Rs := [((11, 2147483648, 2147483649), q_c57_0)]
noncomputable def s_c57 : e2_Sm := (59, as_c57, E_c57, f_c57, rs_c57)
noncomputable def S_c57 : List e2_Sm := [s_c38, s_c56]
noncomputable def I_c57 : List e2_In := [(19, 2, e2x_19), (20, 2, e2x_20), (60, 1, e2x_60)]
set_option maxRecDepth 1000000 in
theorem co_c57 : e2_okSB E_c57.length as_c57 f_c57 rs_c57 = true := by decide +kernel
def al_c57_0 : List ev_V := [(2, 33, 0), (2, 11, 0), (0, 1, 0), (0, 6, 0), (0, 30, 0), (1, 3, 4294967296), (9, 0, 0)]
def E_c57_0 : e2_E := [(2147483648, 2147583648, 0, 0), (2147483652, 2147483668, 1, 0), (2147483648, 2147485248, 2, 0), (2147483648, 2147483678, 3, 0)]
noncomputable def h_c57_0 : ev_H := (cn639 : e2_Q8)
noncomputable def cl_c57_e : List (Nat × e2_S) := [(66, e2_cutL (al_c57_0.set 5 (11, 2147483648, 2147483678)) 3 (E_c57_0.take 3) h_c57_0)]
set_option maxRecDepth 1000000 in
theorem ck_c57_e : e2_run (e2_cal S_c57 I_c57 4000 2) (e2_fin rs_c57) e2x_59 (e2_bpL cl_c57_e) (e2_cutA cl_c57_e) 4000 (e2_seek e2x_59 0) (e2_al 7 as_c57) [] E_c57 f_c57 = true := by decide +kernel
noncomputable def cl_c57_0 : List (Nat × e2_S) := [(66, e2_cutL (al_c57_0.set 5 (13, 11, 2147483678)) 3 (E_c57_0.take 3) h_c57_0)]
set_option maxRecDepth 1000000 in
theorem ck_c57_0 : e2_runM (e2_cal S_c57 I_c57 4000 2) (e2_fin rs_c57) e2x_59 (e2_bpL cl_c57_0) (e2_cutA cl_c57_0) 4000 (e2_seek e2x_59 66) al_c57_0 [] E_c57_0 h_c57_0 = true := by decide +kernel
set_option maxRecDepth 1000000 in
theorem ci_c57_0 : e2_idl 3 (al_c57_0.set 5 (9, 0, 0)) = true := by decide +kernel
set_option maxRecDepth 1000000 in
theorem cj_c57_0 : e2_idh 3 8 h_c57_0 = true := by decide +kernel
theorem cs_c57 (hen : en_ok) (l : Launch) (hh : e2_hand_c l) : e2_smOk l 97 s_c57 := by
  refine e2_conG (H := 94) (n := 2) (C := evd_59) (S := S_c57) (I := I_c57) (fuel := 4000) hen ei_59 (e2_fa ((cs_c38 hen l hh).mono (by decide)) (e2_fa (cs_c56 hen l hh) e2_fz)) (e2_fa ein_19 (e2_fa ein_20 (e2_fa ein_60 e2_fz))) (by decide) co_c57 fun M d _ hC hcall p e R s m args below meth c Q D cA A ads r0 ha hl0 => ?_
  have L_0 : e2_gdM M p l e R s m args below meth c Q D cA A ads r0 66 al_c57_0 [] E_c57_0 h_c57_0 := by
    refine e2_indL (u := 3) (j := 5) (lo := 2147483648) (hi := 2147483678) (b := 3) (dd := 0) hl0 (by decide) rfl rfl (Or.inr ⟨rfl, rfl⟩) rfl ci_c57_0 cj_c57_0 ?_
    intro r_0 k_0 hk_0 hp_0 hs_0 hn_0
    have hl_0 : r_0.length ≤ 4 := hs_0.len rfl
    have ha_0 := ha.ext hp_0
    exact e2_fromM hen ha_0 hcall (e2_cutA_ok (e2_fa (fun al st E h hc => hn_0 al st E h hc) e2_fz)) (hC []) (X := e2x_59) ex2_59 66 ck_c57_0
  have EN_0 := e2_entL (u := 3) (j := 5) (lo := 2147483648) (hi := 2147483678) hl0 rfl rfl rfl ci_c57_0 cj_c57_0 L_0
  exact e2_from hen ha hcall (e2_cutA_ok (e2_fa (fun al st E h hc => EN_0 al st E h hc) e2_fz)) (hC []) (X := e2x_59) ex2_59 0 ck_c57_e
/-! c58 X3_parseLevel -/
def as_c58 : List ev_V := [(2, 33, 0), (2, 11, 0), (0, 0, 0), (0, 6, 0)]
def E_c58 : e2_E := [(2147483648, 2147583648, 0, 0), (2147483652, 2147483668, 1, 0), (2147483648, 2147485248, 2, 0)]
noncomputable def f_c58 : ev_H := (cn639 : e2_Q8)
noncomputable def q_c58_0 : ev_H := (cn639 : e2_Q8)
noncomputable def rs_c58 : e2_Rs := [((11, 2147483648, 2147483649), q_c58_0)]
noncomputable def s_c58 : e2_Sm := (59, as_c58, E_c58, f_c58, rs_c58)
noncomputable def S_c58 : List e2_Sm := [s_c38, s_c57]
noncomputable def I_c58 : List e2_In := [(19, 2, e2x_19), (20, 2, e2x_20), (60, 1, e2x_60)]
set_option maxRecDepth 1000000 in
theorem co_c58 : e2_okSB E_c58.length as_c58 f_c58 rs_c58 = true := by decide +kernel
def al_c58_0 : List ev_V := [(2, 33, 0), (2, 11, 0), (0, 0, 0), (0, 6, 0), (0, 30, 0), (1, 3, 4294967296), (9, 0, 0)]
def E_c58_0 : e2_E := [(2147483648, 2147583648, 0, 0), (2147483652, 2147483668, 1, 0), (2147483648, 2147485248, 2, 0), (2147483648, 2147483678, 3, 0)]
noncomputable def h_c58_0 : ev_H := (cn639 : e2_Q8)
noncomputable def cl_c58_e : List (Nat × e2_S) := [(66, e2_cutL (al_c58_0.set 5 (11, 2147483648, 2147483678)) 3 (E_c58_0.take 3) h_c58_0)]
set_option maxRecDepth 1000000 in
theorem ck_c58_e : e2_run (e2_cal S_c58 I_c58 4000 2) (e2_fin rs_c58) e2x_59 (e2_bpL cl_c58_e) (e2_cutA cl_c58_e) 4000 (e2_seek e2x_59 0) (e2_al 7 as_c58) [] E_c58 f_c58 = true := by decide +kernel
noncomputable def cl_c58_0 : List (Nat × e2_S) := [(66, e2_cutL (al_c58_0.set 5 (13, 11, 2147483678)) 3 (E_c58_0.take 3) h_c58_0)]
set_option maxRecDepth 1000000 in
theorem ck_c58_0 : e2_runM (e2_cal S_c58 I_c58 4000 2) (e2_fin rs_c58) e2x_59 (e2_bpL cl_c58_0) (e2_cutA cl_c58_0) 4000 (e2_seek e2x_59 66) al_c58_0 [] E_c58_0 h_c58_0 = true := by decide +kernel
set_option maxRecDepth 1000000 in
theorem ci_c58_0 : e2_idl 3 (al_c58_0.set 5 (9, 0, 0)) = true := by decide +kernel
set_option maxRecDepth 1000000 in
theorem cj_c58_0 : e2_idh 3 8 h_c58_0 = true := by decide +kernel
theorem cs_c58 (hen : en_ok) (l : Launch) (hh : e2_hand_c l) : e2_smOk l 100 s_c58 := by
  refine e2_conG (H := 97) (n := 2) (C := evd_59) (S := S_c58) (I := I_c58) (fuel := 4000) hen ei_59 (e2_fa ((cs_c38 hen l hh).mono (by decide)) (e2_fa (cs_c57 hen l hh) e2_fz)) (e2_fa ein_19 (e2_fa ein_20 (e2_fa ein_60 e2_fz))) (by decide) co_c58 fun M d _ hC hcall p e R s m args below meth c Q D cA A ads r0 ha hl0 => ?_
  have L_0 : e2_gdM M p l e R s m args below meth c Q D cA A ads r0 66 al_c58_0 [] E_c58_0 h_c58_0 := by
    refine e2_indL (u := 3) (j := 5) (lo := 2147483648) (hi := 2147483678) (b := 3) (dd := 0) hl0 (by decide) rfl rfl (Or.inr ⟨rfl, rfl⟩) rfl ci_c58_0 cj_c58_0 ?_
    intro r_0 k_0 hk_0 hp_0 hs_0 hn_0
    have hl_0 : r_0.length ≤ 4 := hs_0.len rfl
    have ha_0 := ha.ext hp_0
    exact e2_fromM hen ha_0 hcall (e2_cutA_ok (e2_fa (fun al st E h hc => hn_0 al st E h hc) e2_fz)) (hC []) (X := e2x_59) ex2_59 66 ck_c58_0
  have EN_0 := e2_entL (u := 3) (j := 5) (lo := 2147483648) (hi := 2147483678) hl0 rfl rfl rfl ci_c58_0 cj_c58_0 L_0
  exact e2_from hen ha hcall (e2_cutA_ok (e2_fa (fun al st E h hc => EN_0 al st E h hc) e2_fz)) (hC []) (X := e2x_59) ex2_59 0 ck_c58_e
/-! c59 X3_parseUnit -/
def as_c59 : List ev_V := [(2, 33, 0), (2, 11, 0), (0, 5, 0)]
def E_c59 : e2_E := [(2147483648, 2147583648, 0, 0), (2147483652, 2147483668, 1, 0), (2147483648, 2147485248, 2, 0)]
noncomputable def f_c59 : ev_H := (cn639 : e2_Q8)
noncomputable def q_c59_0 : ev_H := (cn639 : e2_Q8)
noncomputable def rs_c59 : e2_Rs := [((11, 2147483648, 2147483649), q_c59_0)]
noncomputable def s_c59 : e2_Sm := (62, as_c59, E_c59, f_c59, rs_c59)
noncomputable def S_c59 : List e2_Sm := [s_c38, s_c39, s_c58]
noncomputable def I_c59 : List e2_In := [(18, 2, e2x_18), (19, 2, e2x_19), (20, 2, e2x_20), (43, 2, e2x_43), (44, 3, e2x_44)]
set_option maxRecDepth 1000000 in
theorem ck_c59 : e2_run (e2_cal S_c59 I_c59 4000 2) (e2_fin rs_c59) e2x_62 (fun _ => false) (fun _ _ _ _ _ => false) 4000 (e2_seek e2x_62 0) (e2_al 7 as_c59) [] E_c59 f_c59 = true := by decide +kernel
set_option maxRecDepth 1000000 in
theorem co_c59 : e2_okSB E_c59.length as_c59 f_c59 rs_c59 = true := by decide +kernel
theorem cs_c59 (hen : en_ok) (l : Launch) (hh : e2_hand_c l) : e2_smOk l 103 s_c59 := e2_con0 (H := 100) (n := 2) (C := evd_62) (S := S_c59) (I := I_c59) (fuel := 4000) [] hen ei_62 (e2_fa ((cs_c38 hen l hh).mono (by decide)) (e2_fa ((cs_c39 hen l hh).mono (by decide)) (e2_fa (cs_c58 hen l hh) e2_fz))) (e2_fa ein_18 (e2_fa ein_19 (e2_fa ein_20 (e2_fa ein_43 (e2_fa ein_44 e2_fz))))) (by decide) co_c59 ex2_62 ck_c59
/-! c60 X3_parseLevel -/
def as_c60 : List ev_V := [(2, 33, 0), (2, 11, 0), (0, 5, 0), (0, 5, 0)]
def E_c60 : e2_E := [(2147483648, 2147583648, 0, 0), (2147483652, 2147483668, 1, 0), (2147483648, 2147485248, 2, 0)]
noncomputable def f_c60 : ev_H := (cn639 : e2_Q8)
noncomputable def q_c60_0 : ev_H := (cn639 : e2_Q8)
noncomputable def rs_c60 : e2_Rs := [((11, 2147483648, 2147483649), q_c60_0)]
noncomputable def s_c60 : e2_Sm := (59, as_c60, E_c60, f_c60, rs_c60)
noncomputable def S_c60 : List e2_Sm := [s_c59]
noncomputable def I_c60 : List e2_In := []
set_option maxRecDepth 1000000 in
theorem ck_c60 : e2_run (e2_cal S_c60 I_c60 4000 0) (e2_fin rs_c60) e2x_59 (fun _ => false) (fun _ _ _ _ _ => false) 4000 (e2_seek e2x_59 0) (e2_al 7 as_c60) [] E_c60 f_c60 = true := by decide +kernel
set_option maxRecDepth 1000000 in
theorem co_c60 : e2_okSB E_c60.length as_c60 f_c60 rs_c60 = true := by decide +kernel
theorem cs_c60 (hen : en_ok) (l : Launch) (hh : e2_hand_c l) : e2_smOk l 104 s_c60 := e2_con0 (H := 103) (n := 0) (C := evd_59) (S := S_c60) (I := I_c60) (fuel := 4000) [] hen ei_59 (e2_fa (cs_c59 hen l hh) e2_fz) e2_fz (by decide) co_c60 ex2_59 ck_c60
/-! c61 X3_parseLevel -/
def as_c61 : List ev_V := [(2, 33, 0), (2, 11, 0), (0, 4, 0), (0, 5, 0)]
def E_c61 : e2_E := [(2147483648, 2147583648, 0, 0), (2147483652, 2147483668, 1, 0), (2147483648, 2147485248, 2, 0)]
noncomputable def f_c61 : ev_H := (cn639 : e2_Q8)
noncomputable def q_c61_0 : ev_H := (cn639 : e2_Q8)
noncomputable def rs_c61 : e2_Rs := [((11, 2147483648, 2147483649), q_c61_0)]
noncomputable def s_c61 : e2_Sm := (59, as_c61, E_c61, f_c61, rs_c61)
noncomputable def S_c61 : List e2_Sm := [s_c38, s_c60]
noncomputable def I_c61 : List e2_In := [(19, 2, e2x_19), (20, 2, e2x_20), (60, 1, e2x_60)]
set_option maxRecDepth 1000000 in
theorem co_c61 : e2_okSB E_c61.length as_c61 f_c61 rs_c61 = true := by decide +kernel
def al_c61_0 : List ev_V := [(2, 33, 0), (2, 11, 0), (0, 4, 0), (0, 5, 0), (0, 30, 0), (1, 3, 4294967296), (9, 0, 0)]
def E_c61_0 : e2_E := [(2147483648, 2147583648, 0, 0), (2147483652, 2147483668, 1, 0), (2147483648, 2147485248, 2, 0), (2147483648, 2147483678, 3, 0)]
noncomputable def h_c61_0 : ev_H := (cn639 : e2_Q8)
noncomputable def cl_c61_e : List (Nat × e2_S) := [(66, e2_cutL (al_c61_0.set 5 (11, 2147483648, 2147483678)) 3 (E_c61_0.take 3) h_c61_0)]
set_option maxRecDepth 1000000 in
theorem ck_c61_e : e2_run (e2_cal S_c61 I_c61 4000 2) (e2_fin rs_c61) e2x_59 (e2_bpL cl_c61_e) (e2_cutA cl_c61_e) 4000 (e2_seek e2x_59 0) (e2_al 7 as_c61) [] E_c61 f_c61 = true := by decide +kernel
noncomputable def cl_c61_0 : List (Nat × e2_S) := [(66, e2_cutL (al_c61_0.set 5 (13, 11, 2147483678)) 3 (E_c61_0.take 3) h_c61_0)]
set_option maxRecDepth 1000000 in
theorem ck_c61_0 : e2_runM (e2_cal S_c61 I_c61 4000 2) (e2_fin rs_c61) e2x_59 (e2_bpL cl_c61_0) (e2_cutA cl_c61_0) 4000 (e2_seek e2x_59 66) al_c61_0 [] E_c61_0 h_c61_0 = true := by decide +kernel
set_option maxRecDepth 1000000 in
theorem ci_c61_0 : e2_idl 3 (al_c61_0.set 5 (9, 0, 0)) = true := by decide +kernel
set_option maxRecDepth 1000000 in
theorem cj_c61_0 : e2_idh 3 8 h_c61_0 = true := by decide +kernel
theorem cs_c61 (hen : en_ok) (l : Launch) (hh : e2_hand_c l) : e2_smOk l 107 s_c61 := by
  refine e2_conG (H := 104) (n := 2) (C := evd_59) (S := S_c61) (I := I_c61) (fuel := 4000) hen ei_59 (e2_fa ((cs_c38 hen l hh).mono (by decide)) (e2_fa (cs_c60 hen l hh) e2_fz)) (e2_fa ein_19 (e2_fa ein_20 (e2_fa ein_60 e2_fz))) (by decide) co_c61 fun M d _ hC hcall p e R s m args below meth c Q D cA A ads r0 ha hl0 => ?_
  have L_0 : e2_gdM M p l e R s m args below meth c Q D cA A ads r0 66 al_c61_0 [] E_c61_0 h_c61_0 := by
    refine e2_indL (u := 3) (j := 5) (lo := 2147483648) (hi := 2147483678) (b := 3) (dd := 0) hl0 (by decide) rfl rfl (Or.inr ⟨rfl, rfl⟩) rfl ci_c61_0 cj_c61_0 ?_
    intro r_0 k_0 hk_0 hp_0 hs_0 hn_0
    have hl_0 : r_0.length ≤ 4 := hs_0.len rfl
    have ha_0 := ha.ext hp_0
    exact e2_fromM hen ha_0 hcall (e2_cutA_ok (e2_fa (fun al st E h hc => hn_0 al st E h hc) e2_fz)) (hC []) (X := e2x_59) ex2_59 66 ck_c61_0
  have EN_0 := e2_entL (u := 3) (j := 5) (lo := 2147483648) (hi := 2147483678) hl0 rfl rfl rfl ci_c61_0 cj_c61_0 L_0
  exact e2_from hen ha hcall (e2_cutA_ok (e2_fa (fun al st E h hc => EN_0 al st E h hc) e2_fz)) (hC []) (X := e2x_59) ex2_59 0 ck_c61_e
/-! c62 X3_parseLevel -/
def as_c62 : List ev_V := [(2, 33, 0), (2, 11, 0), (0, 3, 0), (0, 5, 0)]
def E_c62 : e2_E := [(2147483648, 2147583648, 0, 0), (2147483652, 2147483668, 1, 0), (2147483648, 2147485248, 2, 0)]
noncomputable def f_c62 : ev_H := (cn639 : e2_Q8)
noncomputable def q_c62_0 : ev_H := (cn639 : e2_Q8)
noncomputable def rs_c62 : e2_Rs := [((11, 2147483648, 2147483649), q_c62_0)]
noncomputable def s_c62 : e2_Sm := (59, as_c62, E_c62, f_c62, rs_c62)
noncomputable def S_c62 : List e2_Sm := [s_c38, s_c61]
noncomputable def I_c62 : List e2_In := [(19, 2, e2x_19), (20, 2, e2x_20), (60, 1, e2x_60)]
set_option maxRecDepth 1000000 in
theorem co_c62 : e2_okSB E_c62.length as_c62 f_c62 rs_c62 = true := by decide +kernel
def al_c62_0 : List ev_V := [(2, 33, 0), (2, 11, 0), (0, 3, 0), (0, 5, 0), (0, 30, 0), (1, 3, 4294967296), (9, 0, 0)]
def E_c62_0 : e2_E := [(2147483648, 2147583648, 0, 0), (2147483652, 2147483668, 1, 0), (2147483648, 2147485248, 2, 0), (2147483648, 2147483678, 3, 0)]
noncomputable def h_c62_0 : ev_H := (cn639 : e2_Q8)
noncomputable def cl_c62_e : List (Nat × e2_S) := [(66, e2_cutL (al_c62_0.set 5 (11, 2147483648, 2147483678)) 3 (E_c62_0.take 3) h_c62_0)]
set_option maxRecDepth 1000000 in
theorem ck_c62_e : e2_run (e2_cal S_c62 I_c62 4000 2) (e2_fin rs_c62) e2x_59 (e2_bpL cl_c62_e) (e2_cutA cl_c62_e) 4000 (e2_seek e2x_59 0) (e2_al 7 as_c62) [] E_c62 f_c62 = true := by decide +kernel
noncomputable def cl_c62_0 : List (Nat × e2_S) := [(66, e2_cutL (al_c62_0.set 5 (13, 11, 2147483678)) 3 (E_c62_0.take 3) h_c62_0)]
set_option maxRecDepth 1000000 in
theorem ck_c62_0 : e2_runM (e2_cal S_c62 I_c62 4000 2) (e2_fin rs_c62) e2x_59 (e2_bpL cl_c62_0) (e2_cutA cl_c62_0) 4000 (e2_seek e2x_59 66) al_c62_0 [] E_c62_0 h_c62_0 = true := by decide +kernel
set_option maxRecDepth 1000000 in
theorem ci_c62_0 : e2_idl 3 (al_c62_0.set 5 (9, 0, 0)) = true := by decide +kernel
set_option maxRecDepth 1000000 in
theorem cj_c62_0 : e2_idh 3 8 h_c62_0 = true := by decide +kernel
theorem cs_c62 (hen : en_ok) (l : Launch) (hh : e2_hand_c l) : e2_smOk l 110 s_c62 := by
  refine e2_conG (H := 107) (n := 2) (C := evd_59) (S := S_c62) (I := I_c62) (fuel := 4000) hen ei_59 (e2_fa ((cs_c38 hen l hh).mono (by decide)) (e2_fa (cs_c61 hen l hh) e2_fz)) (e2_fa ein_19 (e2_fa ein_20 (e2_fa ein_60 e2_fz))) (by decide) co_c62 fun M d _ hC hcall p e R s m args below meth c Q D cA A ads r0 ha hl0 => ?_
  have L_0 : e2_gdM M p l e R s m args below meth c Q D cA A ads r0 66 al_c62_0 [] E_c62_0 h_c62_0 := by
    refine e2_indL (u := 3) (j := 5) (lo := 2147483648) (hi := 2147483678) (b := 3) (dd := 0) hl0 (by decide) rfl rfl (Or.inr ⟨rfl, rfl⟩) rfl ci_c62_0 cj_c62_0 ?_
    intro r_0 k_0 hk_0 hp_0 hs_0 hn_0
    have hl_0 : r_0.length ≤ 4 := hs_0.len rfl
    have ha_0 := ha.ext hp_0
    exact e2_fromM hen ha_0 hcall (e2_cutA_ok (e2_fa (fun al st E h hc => hn_0 al st E h hc) e2_fz)) (hC []) (X := e2x_59) ex2_59 66 ck_c62_0
  have EN_0 := e2_entL (u := 3) (j := 5) (lo := 2147483648) (hi := 2147483678) hl0 rfl rfl rfl ci_c62_0 cj_c62_0 L_0
  exact e2_from hen ha hcall (e2_cutA_ok (e2_fa (fun al st E h hc => EN_0 al st E h hc) e2_fz)) (hC []) (X := e2x_59) ex2_59 0 ck_c62_e
/-! c63 X3_parseNot -/
def as_c63 : List ev_V := [(2, 33, 0), (2, 11, 0), (0, 5, 0)]
def E_c63 : e2_E := [(2147483648, 2147583648, 0, 0), (2147483652, 2147483668, 1, 0), (2147483648, 2147485248, 2, 0)]
noncomputable def f_c63 : ev_H := (cn639 : e2_Q8)
noncomputable def q_c63_0 : ev_H := (cn639 : e2_Q8)
noncomputable def rs_c63 : e2_Rs := [((11, 2147483648, 2147483649), q_c63_0)]
noncomputable def s_c63 : e2_Sm := (61, as_c63, E_c63, f_c63, rs_c63)
noncomputable def S_c63 : List e2_Sm := [s_c38, s_c56]
noncomputable def I_c63 : List e2_In := [(19, 2, e2x_19), (20, 2, e2x_20)]
set_option maxRecDepth 1000000 in
theorem ck_c63 : e2_run (e2_cal S_c63 I_c63 4000 2) (e2_fin rs_c63) e2x_61 (fun _ => false) (fun _ _ _ _ _ => false) 4000 (e2_seek e2x_61 0) (e2_al 3 as_c63) [] E_c63 f_c63 = true := by decide +kernel
set_option maxRecDepth 1000000 in
theorem co_c63 : e2_okSB E_c63.length as_c63 f_c63 rs_c63 = true := by decide +kernel
theorem cs_c63 (hen : en_ok) (l : Launch) (hh : e2_hand_c l) : e2_smOk l 97 s_c63 := e2_con0 (H := 94) (n := 2) (C := evd_61) (S := S_c63) (I := I_c63) (fuel := 4000) [] hen ei_61 (e2_fa ((cs_c38 hen l hh).mono (by decide)) (e2_fa (cs_c56 hen l hh) e2_fz)) (e2_fa ein_19 (e2_fa ein_20 e2_fz)) (by decide) co_c63 ex2_61 ck_c63
/-! c64 X3_parseLevel -/
def as_c64 : List ev_V := [(2, 33, 0), (2, 11, 0), (0, 2, 0), (0, 5, 0)]
def E_c64 : e2_E := [(2147483648, 2147583648, 0, 0), (2147483652, 2147483668, 1, 0), (2147483648, 2147485248, 2, 0)]
noncomputable def f_c64 : ev_H := (cn639 : e2_Q8)
noncomputable def q_c64_0 : ev_H := (cn639 : e2_Q8)
noncomputable def rs_c64 : e2_Rs := [((11, 2147483648, 2147483649), q_c64_0)]
noncomputable def s_c64 : e2_Sm := (59, as_c64, E_c64, f_c64, rs_c64)
noncomputable def S_c64 : List e2_Sm := [s_c38, s_c62, s_c63]
noncomputable def I_c64 : List e2_In := [(19, 2, e2x_19), (20, 2, e2x_20), (60, 1, e2x_60)]
set_option maxRecDepth 1000000 in
theorem co_c64 : e2_okSB E_c64.length as_c64 f_c64 rs_c64 = true := by decide +kernel
def al_c64_0 : List ev_V := [(2, 33, 0), (2, 11, 0), (0, 2, 0), (0, 5, 0), (0, 1, 0), (1, 3, 4294967296), (9, 0, 0)]
def E_c64_0 : e2_E := [(2147483648, 2147583648, 0, 0), (2147483652, 2147483668, 1, 0), (2147483648, 2147485248, 2, 0), (2147483648, 2147483649, 3, 0)]
noncomputable def h_c64_0 : ev_H := (cn639 : e2_Q8)
noncomputable def cl_c64_e : List (Nat × e2_S) := [(66, e2_cutL (al_c64_0.set 5 (11, 2147483648, 2147483649)) 3 (E_c64_0.take 3) h_c64_0)]
set_option maxRecDepth 1000000 in
theorem ck_c64_e : e2_run (e2_cal S_c64 I_c64 4000 2) (e2_fin rs_c64) e2x_59 (e2_bpL cl_c64_e) (e2_cutA cl_c64_e) 4000 (e2_seek e2x_59 0) (e2_al 7 as_c64) [] E_c64 f_c64 = true := by decide +kernel
noncomputable def cl_c64_0 : List (Nat × e2_S) := [(66, e2_cutL (al_c64_0.set 5 (13, 11, 2147483649)) 3 (E_c64_0.take 3) h_c64_0)]
set_option maxRecDepth 1000000 in
theorem ck_c64_0 : e2_runM (e2_cal S_c64 I_c64 4000 2) (e2_fin rs_c64) e2x_59 (e2_bpL cl_c64_0) (e2_cutA cl_c64_0) 4000 (e2_seek e2x_59 66) al_c64_0 [] E_c64_0 h_c64_0 = true := by decide +kernel
set_option maxRecDepth 1000000 in
theorem ci_c64_0 : e2_idl 3 (al_c64_0.set 5 (9, 0, 0)) = true := by decide +kernel
set_option maxRecDepth 1000000 in
theorem cj_c64_0 : e2_idh 3 8 h_c64_0 = true := by decide +kernel
theorem cs_c64 (hen : en_ok) (l : Launch) (hh : e2_hand_c l) : e2_smOk l 113 s_c64 := by
  refine e2_conG (H := 110) (n := 2) (C := evd_59) (S := S_c64) (I := I_c64) (fuel := 4000) hen ei_59 (e2_fa ((cs_c38 hen l hh).mono (by decide)) (e2_fa (cs_c62 hen l hh) (e2_fa ((cs_c63 hen l hh).mono (by decide)) e2_fz))) (e2_fa ein_19 (e2_fa ein_20 (e2_fa ein_60 e2_fz))) (by decide) co_c64 fun M d _ hC hcall p e R s m args below meth c Q D cA A ads r0 ha hl0 => ?_
  have L_0 : e2_gdM M p l e R s m args below meth c Q D cA A ads r0 66 al_c64_0 [] E_c64_0 h_c64_0 := by
    refine e2_indL (u := 3) (j := 5) (lo := 2147483648) (hi := 2147483649) (b := 3) (dd := 0) hl0 (by decide) rfl rfl (Or.inr ⟨rfl, rfl⟩) rfl ci_c64_0 cj_c64_0 ?_
    intro r_0 k_0 hk_0 hp_0 hs_0 hn_0
    have hl_0 : r_0.length ≤ 4 := hs_0.len rfl
    have ha_0 := ha.ext hp_0
    exact e2_fromM hen ha_0 hcall (e2_cutA_ok (e2_fa (fun al st E h hc => hn_0 al st E h hc) e2_fz)) (hC []) (X := e2x_59) ex2_59 66 ck_c64_0
  have EN_0 := e2_entL (u := 3) (j := 5) (lo := 2147483648) (hi := 2147483649) hl0 rfl rfl rfl ci_c64_0 cj_c64_0 L_0
  exact e2_from hen ha hcall (e2_cutA_ok (e2_fa (fun al st E h hc => EN_0 al st E h hc) e2_fz)) (hC []) (X := e2x_59) ex2_59 0 ck_c64_e
/-! c65 X3_parseLevel -/
def as_c65 : List ev_V := [(2, 33, 0), (2, 11, 0), (0, 1, 0), (0, 5, 0)]
def E_c65 : e2_E := [(2147483648, 2147583648, 0, 0), (2147483652, 2147483668, 1, 0), (2147483648, 2147485248, 2, 0)]
noncomputable def f_c65 : ev_H := (cn639 : e2_Q8)
noncomputable def q_c65_0 : ev_H := (cn639 : e2_Q8)
noncomputable def rs_c65 : e2_Rs := [((11, 2147483648, 2147483649), q_c65_0)]
noncomputable def s_c65 : e2_Sm := (59, as_c65, E_c65, f_c65, rs_c65)
noncomputable def S_c65 : List e2_Sm := [s_c38, s_c64]
noncomputable def I_c65 : List e2_In := [(19, 2, e2x_19), (20, 2, e2x_20), (60, 1, e2x_60)]
set_option maxRecDepth 1000000 in
theorem co_c65 : e2_okSB E_c65.length as_c65 f_c65 rs_c65 = true := by decide +kernel
def al_c65_0 : List ev_V := [(2, 33, 0), (2, 11, 0), (0, 1, 0), (0, 5, 0), (0, 30, 0), (1, 3, 4294967296), (9, 0, 0)]
def E_c65_0 : e2_E := [(2147483648, 2147583648, 0, 0), (2147483652, 2147483668, 1, 0), (2147483648, 2147485248, 2, 0), (2147483648, 2147483678, 3, 0)]
noncomputable def h_c65_0 : ev_H := (cn639 : e2_Q8)
noncomputable def cl_c65_e : List (Nat × e2_S) := [(66, e2_cutL (al_c65_0.set 5 (11, 2147483648, 2147483678)) 3 (E_c65_0.take 3) h_c65_0)]
set_option maxRecDepth 1000000 in
theorem ck_c65_e : e2_run (e2_cal S_c65 I_c65 4000 2) (e2_fin rs_c65) e2x_59 (e2_bpL cl_c65_e) (e2_cutA cl_c65_e) 4000 (e2_seek e2x_59 0) (e2_al 7 as_c65) [] E_c65 f_c65 = true := by decide +kernel
noncomputable def cl_c65_0 : List (Nat × e2_S) := [(66, e2_cutL (al_c65_0.set 5 (13, 11, 2147483678)) 3 (E_c65_0.take 3) h_c65_0)]
set_option maxRecDepth 1000000 in
theorem ck_c65_0 : e2_runM (e2_cal S_c65 I_c65 4000 2) (e2_fin rs_c65) e2x_59 (e2_bpL cl_c65_0) (e2_cutA cl_c65_0) 4000 (e2_seek e2x_59 66) al_c65_0 [] E_c65_0 h_c65_0 = true := by decide +kernel
set_option maxRecDepth 1000000 in
theorem ci_c65_0 : e2_idl 3 (al_c65_0.set 5 (9, 0, 0)) = true := by decide +kernel
set_option maxRecDepth 1000000 in
theorem cj_c65_0 : e2_idh 3 8 h_c65_0 = true := by decide +kernel
theorem cs_c65 (hen : en_ok) (l : Launch) (hh : e2_hand_c l) : e2_smOk l 116 s_c65 := by
  refine e2_conG (H := 113) (n := 2) (C := evd_59) (S := S_c65) (I := I_c65) (fuel := 4000) hen ei_59 (e2_fa ((cs_c38 hen l hh).mono (by decide)) (e2_fa (cs_c64 hen l hh) e2_fz)) (e2_fa ein_19 (e2_fa ein_20 (e2_fa ein_60 e2_fz))) (by decide) co_c65 fun M d _ hC hcall p e R s m args below meth c Q D cA A ads r0 ha hl0 => ?_
  have L_0 : e2_gdM M p l e R s m args below meth c Q D cA A ads r0 66 al_c65_0 [] E_c65_0 h_c65_0 := by
    refine e2_indL (u := 3) (j := 5) (lo := 2147483648) (hi := 2147483678) (b := 3) (dd := 0) hl0 (by decide) rfl rfl (Or.inr ⟨rfl, rfl⟩) rfl ci_c65_0 cj_c65_0 ?_
    intro r_0 k_0 hk_0 hp_0 hs_0 hn_0
    have hl_0 : r_0.length ≤ 4 := hs_0.len rfl
    have ha_0 := ha.ext hp_0
    exact e2_fromM hen ha_0 hcall (e2_cutA_ok (e2_fa (fun al st E h hc => hn_0 al st E h hc) e2_fz)) (hC []) (X := e2x_59) ex2_59 66 ck_c65_0
  have EN_0 := e2_entL (u := 3) (j := 5) (lo := 2147483648) (hi := 2147483678) hl0 rfl rfl rfl ci_c65_0 cj_c65_0 L_0
  exact e2_from hen ha hcall (e2_cutA_ok (e2_fa (fun al st E h hc => EN_0 al st E h hc) e2_fz)) (hC []) (X := e2x_59) ex2_59 0 ck_c65_e
/-! c66 X3_parseLevel -/
def as_c66 : List ev_V := [(2, 33, 0), (2, 11, 0), (0, 0, 0), (0, 5, 0)]
def E_c66 : e2_E := [(2147483648, 2147583648, 0, 0), (2147483652, 2147483668, 1, 0), (2147483648, 2147485248, 2, 0)]
noncomputable def f_c66 : ev_H := (cn639 : e2_Q8)
noncomputable def q_c66_0 : ev_H := (cn639 : e2_Q8)
noncomputable def rs_c66 : e2_Rs := [((11, 2147483648, 2147483649), q_c66_0)]
noncomputable def s_c66 : e2_Sm := (59, as_c66, E_c66, f_c66, rs_c66)
noncomputable def S_c66 : List e2_Sm := [s_c38, s_c65]
noncomputable def I_c66 : List e2_In := [(19, 2, e2x_19), (20, 2, e2x_20), (60, 1, e2x_60)]
set_option maxRecDepth 1000000 in
theorem co_c66 : e2_okSB E_c66.length as_c66 f_c66 rs_c66 = true := by decide +kernel
def al_c66_0 : List ev_V := [(2, 33, 0), (2, 11, 0), (0, 0, 0), (0, 5, 0), (0, 30, 0), (1, 3, 4294967296), (9, 0, 0)]
def E_c66_0 : e2_E := [(2147483648, 2147583648, 0, 0), (2147483652, 2147483668, 1, 0), (2147483648, 2147485248, 2, 0), (2147483648, 2147483678, 3, 0)]
noncomputable def h_c66_0 : ev_H := (cn639 : e2_Q8)
noncomputable def cl_c66_e : List (Nat × e2_S) := [(66, e2_cutL (al_c66_0.set 5 (11, 2147483648, 2147483678)) 3 (E_c66_0.take 3) h_c66_0)]
set_option maxRecDepth 1000000 in
theorem ck_c66_e : e2_run (e2_cal S_c66 I_c66 4000 2) (e2_fin rs_c66) e2x_59 (e2_bpL cl_c66_e) (e2_cutA cl_c66_e) 4000 (e2_seek e2x_59 0) (e2_al 7 as_c66) [] E_c66 f_c66 = true := by decide +kernel
noncomputable def cl_c66_0 : List (Nat × e2_S) := [(66, e2_cutL (al_c66_0.set 5 (13, 11, 2147483678)) 3 (E_c66_0.take 3) h_c66_0)]
set_option maxRecDepth 1000000 in
theorem ck_c66_0 : e2_runM (e2_cal S_c66 I_c66 4000 2) (e2_fin rs_c66) e2x_59 (e2_bpL cl_c66_0) (e2_cutA cl_c66_0) 4000 (e2_seek e2x_59 66) al_c66_0 [] E_c66_0 h_c66_0 = true := by decide +kernel
set_option maxRecDepth 1000000 in
theorem ci_c66_0 : e2_idl 3 (al_c66_0.set 5 (9, 0, 0)) = true := by decide +kernel
set_option maxRecDepth 1000000 in
theorem cj_c66_0 : e2_idh 3 8 h_c66_0 = true := by decide +kernel
theorem cs_c66 (hen : en_ok) (l : Launch) (hh : e2_hand_c l) : e2_smOk l 119 s_c66 := by
  refine e2_conG (H := 116) (n := 2) (C := evd_59) (S := S_c66) (I := I_c66) (fuel := 4000) hen ei_59 (e2_fa ((cs_c38 hen l hh).mono (by decide)) (e2_fa (cs_c65 hen l hh) e2_fz)) (e2_fa ein_19 (e2_fa ein_20 (e2_fa ein_60 e2_fz))) (by decide) co_c66 fun M d _ hC hcall p e R s m args below meth c Q D cA A ads r0 ha hl0 => ?_
  have L_0 : e2_gdM M p l e R s m args below meth c Q D cA A ads r0 66 al_c66_0 [] E_c66_0 h_c66_0 := by
    refine e2_indL (u := 3) (j := 5) (lo := 2147483648) (hi := 2147483678) (b := 3) (dd := 0) hl0 (by decide) rfl rfl (Or.inr ⟨rfl, rfl⟩) rfl ci_c66_0 cj_c66_0 ?_
    intro r_0 k_0 hk_0 hp_0 hs_0 hn_0
    have hl_0 : r_0.length ≤ 4 := hs_0.len rfl
    have ha_0 := ha.ext hp_0
    exact e2_fromM hen ha_0 hcall (e2_cutA_ok (e2_fa (fun al st E h hc => hn_0 al st E h hc) e2_fz)) (hC []) (X := e2x_59) ex2_59 66 ck_c66_0
  have EN_0 := e2_entL (u := 3) (j := 5) (lo := 2147483648) (hi := 2147483678) hl0 rfl rfl rfl ci_c66_0 cj_c66_0 L_0
  exact e2_from hen ha hcall (e2_cutA_ok (e2_fa (fun al st E h hc => EN_0 al st E h hc) e2_fz)) (hC []) (X := e2x_59) ex2_59 0 ck_c66_e
/-! c67 X3_parseUnit -/
def as_c67 : List ev_V := [(2, 33, 0), (2, 11, 0), (0, 4, 0)]
def E_c67 : e2_E := [(2147483648, 2147583648, 0, 0), (2147483652, 2147483668, 1, 0), (2147483648, 2147485248, 2, 0)]
noncomputable def f_c67 : ev_H := (cn639 : e2_Q8)
noncomputable def q_c67_0 : ev_H := (cn639 : e2_Q8)
noncomputable def rs_c67 : e2_Rs := [((11, 2147483648, 2147483649), q_c67_0)]
noncomputable def s_c67 : e2_Sm := (62, as_c67, E_c67, f_c67, rs_c67)
noncomputable def S_c67 : List e2_Sm := [s_c38, s_c39, s_c66]
noncomputable def I_c67 : List e2_In := [(18, 2, e2x_18), (19, 2, e2x_19), (20, 2, e2x_20), (43, 2, e2x_43), (44, 3, e2x_44)]
set_option maxRecDepth 1000000 in
theorem ck_c67 : e2_run (e2_cal S_c67 I_c67 4000 2) (e2_fin rs_c67) e2x_62 (fun _ => false) (fun _ _ _ _ _ => false) 4000 (e2_seek e2x_62 0) (e2_al 7 as_c67) [] E_c67 f_c67 = true := by decide +kernel
set_option maxRecDepth 1000000 in
theorem co_c67 : e2_okSB E_c67.length as_c67 f_c67 rs_c67 = true := by decide +kernel
theorem cs_c67 (hen : en_ok) (l : Launch) (hh : e2_hand_c l) : e2_smOk l 122 s_c67 := e2_con0 (H := 119) (n := 2) (C := evd_62) (S := S_c67) (I := I_c67) (fuel := 4000) [] hen ei_62 (e2_fa ((cs_c38 hen l hh).mono (by decide)) (e2_fa ((cs_c39 hen l hh).mono (by decide)) (e2_fa (cs_c66 hen l hh) e2_fz))) (e2_fa ein_18 (e2_fa ein_19 (e2_fa ein_20 (e2_fa ein_43 (e2_fa ein_44 e2_fz))))) (by decide) co_c67 ex2_62 ck_c67
/-! c68 X3_parseLevel -/
def as_c68 : List ev_V := [(2, 33, 0), (2, 11, 0), (0, 5, 0), (0, 4, 0)]
def E_c68 : e2_E := [(2147483648, 2147583648, 0, 0), (2147483652, 2147483668, 1, 0), (2147483648, 2147485248, 2, 0)]
noncomputable def f_c68 : ev_H := (cn639 : e2_Q8)
noncomputable def q_c68_0 : ev_H := (cn639 : e2_Q8)
noncomputable def rs_c68 : e2_Rs := [((11, 2147483648, 2147483649), q_c68_0)]
noncomputable def s_c68 : e2_Sm := (59, as_c68, E_c68, f_c68, rs_c68)
noncomputable def S_c68 : List e2_Sm := [s_c67]
noncomputable def I_c68 : List e2_In := []
set_option maxRecDepth 1000000 in
theorem ck_c68 : e2_run (e2_cal S_c68 I_c68 4000 0) (e2_fin rs_c68) e2x_59 (fun _ => false) (fun _ _ _ _ _ => false) 4000 (e2_seek e2x_59 0) (e2_al 7 as_c68) [] E_c68 f_c68 = true := by decide +kernel
set_option maxRecDepth 1000000 in
theorem co_c68 : e2_okSB E_c68.length as_c68 f_c68 rs_c68 = true := by decide +kernel
theorem cs_c68 (hen : en_ok) (l : Launch) (hh : e2_hand_c l) : e2_smOk l 123 s_c68 := e2_con0 (H := 122) (n := 0) (C := evd_59) (S := S_c68) (I := I_c68) (fuel := 4000) [] hen ei_59 (e2_fa (cs_c67 hen l hh) e2_fz) e2_fz (by decide) co_c68 ex2_59 ck_c68
/-! c69 X3_parseLevel -/
def as_c69 : List ev_V := [(2, 33, 0), (2, 11, 0), (0, 4, 0), (0, 4, 0)]
def E_c69 : e2_E := [(2147483648, 2147583648, 0, 0), (2147483652, 2147483668, 1, 0), (2147483648, 2147485248, 2, 0)]
noncomputable def f_c69 : ev_H := (cn639 : e2_Q8)
noncomputable def q_c69_0 : ev_H := (cn639 : e2_Q8)
noncomputable def rs_c69 : e2_Rs := [((11, 2147483648, 2147483649), q_c69_0)]
noncomputable def s_c69 : e2_Sm := (59, as_c69, E_c69, f_c69, rs_c69)
noncomputable def S_c69 : List e2_Sm := [s_c38, s_c68]
noncomputable def I_c69 : List e2_In := [(19, 2, e2x_19), (20, 2, e2x_20), (60, 1, e2x_60)]
set_option maxRecDepth 1000000 in
theorem co_c69 : e2_okSB E_c69.length as_c69 f_c69 rs_c69 = true := by decide +kernel
def al_c69_0 : List ev_V := [(2, 33, 0), (2, 11, 0), (0, 4, 0), (0, 4, 0), (0, 30, 0), (1, 3, 4294967296), (9, 0, 0)]
def E_c69_0 : e2_E := [(2147483648, 2147583648, 0, 0), (2147483652, 2147483668, 1, 0), (2147483648, 2147485248, 2, 0), (2147483648, 2147483678, 3, 0)]
noncomputable def h_c69_0 : ev_H := (cn639 : e2_Q8)
noncomputable def cl_c69_e : List (Nat × e2_S) := [(66, e2_cutL (al_c69_0.set 5 (11, 2147483648, 2147483678)) 3 (E_c69_0.take 3) h_c69_0)]
set_option maxRecDepth 1000000 in
theorem ck_c69_e : e2_run (e2_cal S_c69 I_c69 4000 2) (e2_fin rs_c69) e2x_59 (e2_bpL cl_c69_e) (e2_cutA cl_c69_e) 4000 (e2_seek e2x_59 0) (e2_al 7 as_c69) [] E_c69 f_c69 = true := by decide +kernel
noncomputable def cl_c69_0 : List (Nat × e2_S) := [(66, e2_cutL (al_c69_0.set 5 (13, 11, 2147483678)) 3 (E_c69_0.take 3) h_c69_0)]
set_option maxRecDepth 1000000 in
theorem ck_c69_0 : e2_runM (e2_cal S_c69 I_c69 4000 2) (e2_fin rs_c69) e2x_59 (e2_bpL cl_c69_0) (e2_cutA cl_c69_0) 4000 (e2_seek e2x_59 66) al_c69_0 [] E_c69_0 h_c69_0 = true := by decide +kernel
set_option maxRecDepth 1000000 in
theorem ci_c69_0 : e2_idl 3 (al_c69_0.set 5 (9, 0, 0)) = true := by decide +kernel
set_option maxRecDepth 1000000 in
theorem cj_c69_0 : e2_idh 3 8 h_c69_0 = true := by decide +kernel
theorem cs_c69 (hen : en_ok) (l : Launch) (hh : e2_hand_c l) : e2_smOk l 126 s_c69 := by
  refine e2_conG (H := 123) (n := 2) (C := evd_59) (S := S_c69) (I := I_c69) (fuel := 4000) hen ei_59 (e2_fa ((cs_c38 hen l hh).mono (by decide)) (e2_fa (cs_c68 hen l hh) e2_fz)) (e2_fa ein_19 (e2_fa ein_20 (e2_fa ein_60 e2_fz))) (by decide) co_c69 fun M d _ hC hcall p e R s m args below meth c Q D cA A ads r0 ha hl0 => ?_
  have L_0 : e2_gdM M p l e R s m args below meth c Q D cA A ads r0 66 al_c69_0 [] E_c69_0 h_c69_0 := by
    refine e2_indL (u := 3) (j := 5) (lo := 2147483648) (hi := 2147483678) (b := 3) (dd := 0) hl0 (by decide) rfl rfl (Or.inr ⟨rfl, rfl⟩) rfl ci_c69_0 cj_c69_0 ?_
    intro r_0 k_0 hk_0 hp_0 hs_0 hn_0
    have hl_0 : r_0.length ≤ 4 := hs_0.len rfl
    have ha_0 := ha.ext hp_0
    exact e2_fromM hen ha_0 hcall (e2_cutA_ok (e2_fa (fun al st E h hc => hn_0 al st E h hc) e2_fz)) (hC []) (X := e2x_59) ex2_59 66 ck_c69_0
  have EN_0 := e2_entL (u := 3) (j := 5) (lo := 2147483648) (hi := 2147483678) hl0 rfl rfl rfl ci_c69_0 cj_c69_0 L_0
  exact e2_from hen ha hcall (e2_cutA_ok (e2_fa (fun al st E h hc => EN_0 al st E h hc) e2_fz)) (hC []) (X := e2x_59) ex2_59 0 ck_c69_e
/-! c70 X3_parseLevel -/
def as_c70 : List ev_V := [(2, 33, 0), (2, 11, 0), (0, 3, 0), (0, 4, 0)]
def E_c70 : e2_E := [(2147483648, 2147583648, 0, 0), (2147483652, 2147483668, 1, 0), (2147483648, 2147485248, 2, 0)]
noncomputable def f_c70 : ev_H := (cn639 : e2_Q8)
noncomputable def q_c70_0 : ev_H := (cn639 : e2_Q8)
noncomputable def rs_c70 : e2_Rs := [((11, 2147483648, 2147483649), q_c70_0)]
noncomputable def s_c70 : e2_Sm := (59, as_c70, E_c70, f_c70, rs_c70)
noncomputable def S_c70 : List e2_Sm := [s_c38, s_c69]
noncomputable def I_c70 : List e2_In := [(19, 2, e2x_19), (20, 2, e2x_20), (60, 1, e2x_60)]
set_option maxRecDepth 1000000 in
theorem co_c70 : e2_okSB E_c70.length as_c70 f_c70 rs_c70 = true := by decide +kernel
def al_c70_0 : List ev_V := [(2, 33, 0), (2, 11, 0), (0, 3, 0), (0, 4, 0), (0, 30, 0), (1, 3, 4294967296), (9, 0, 0)]
def E_c70_0 : e2_E := [(2147483648, 2147583648, 0, 0), (2147483652, 2147483668, 1, 0), (2147483648, 2147485248, 2, 0), (2147483648, 2147483678, 3, 0)]
noncomputable def h_c70_0 : ev_H := (cn639 : e2_Q8)
noncomputable def cl_c70_e : List (Nat × e2_S) := [(66, e2_cutL (al_c70_0.set 5 (11, 2147483648, 2147483678)) 3 (E_c70_0.take 3) h_c70_0)]
set_option maxRecDepth 1000000 in
theorem ck_c70_e : e2_run (e2_cal S_c70 I_c70 4000 2) (e2_fin rs_c70) e2x_59 (e2_bpL cl_c70_e) (e2_cutA cl_c70_e) 4000 (e2_seek e2x_59 0) (e2_al 7 as_c70) [] E_c70 f_c70 = true := by decide +kernel
noncomputable def cl_c70_0 : List (Nat × e2_S) := [(66, e2_cutL (al_c70_0.set 5 (13, 11, 2147483678)) 3 (E_c70_0.take 3) h_c70_0)]
set_option maxRecDepth 1000000 in
theorem ck_c70_0 : e2_runM (e2_cal S_c70 I_c70 4000 2) (e2_fin rs_c70) e2x_59 (e2_bpL cl_c70_0) (e2_cutA cl_c70_0) 4000 (e2_seek e2x_59 66) al_c70_0 [] E_c70_0 h_c70_0 = true := by decide +kernel
set_option maxRecDepth 1000000 in
theorem ci_c70_0 : e2_idl 3 (al_c70_0.set 5 (9, 0, 0)) = true := by decide +kernel
set_option maxRecDepth 1000000 in
theorem cj_c70_0 : e2_idh 3 8 h_c70_0 = true := by decide +kernel
theorem cs_c70 (hen : en_ok) (l : Launch) (hh : e2_hand_c l) : e2_smOk l 129 s_c70 := by
  refine e2_conG (H := 126) (n := 2) (C := evd_59) (S := S_c70) (I := I_c70) (fuel := 4000) hen ei_59 (e2_fa ((cs_c38 hen l hh).mono (by decide)) (e2_fa (cs_c69 hen l hh) e2_fz)) (e2_fa ein_19 (e2_fa ein_20 (e2_fa ein_60 e2_fz))) (by decide) co_c70 fun M d _ hC hcall p e R s m args below meth c Q D cA A ads r0 ha hl0 => ?_
  have L_0 : e2_gdM M p l e R s m args below meth c Q D cA A ads r0 66 al_c70_0 [] E_c70_0 h_c70_0 := by
    refine e2_indL (u := 3) (j := 5) (lo := 2147483648) (hi := 2147483678) (b := 3) (dd := 0) hl0 (by decide) rfl rfl (Or.inr ⟨rfl, rfl⟩) rfl ci_c70_0 cj_c70_0 ?_
    intro r_0 k_0 hk_0 hp_0 hs_0 hn_0
    have hl_0 : r_0.length ≤ 4 := hs_0.len rfl
    have ha_0 := ha.ext hp_0
    exact e2_fromM hen ha_0 hcall (e2_cutA_ok (e2_fa (fun al st E h hc => hn_0 al st E h hc) e2_fz)) (hC []) (X := e2x_59) ex2_59 66 ck_c70_0
  have EN_0 := e2_entL (u := 3) (j := 5) (lo := 2147483648) (hi := 2147483678) hl0 rfl rfl rfl ci_c70_0 cj_c70_0 L_0
  exact e2_from hen ha hcall (e2_cutA_ok (e2_fa (fun al st E h hc => EN_0 al st E h hc) e2_fz)) (hC []) (X := e2x_59) ex2_59 0 ck_c70_e
/-! c71 X3_parseNot -/
def as_c71 : List ev_V := [(2, 33, 0), (2, 11, 0), (0, 4, 0)]
def E_c71 : e2_E := [(2147483648, 2147583648, 0, 0), (2147483652, 2147483668, 1, 0), (2147483648, 2147485248, 2, 0)]
noncomputable def f_c71 : ev_H := (cn639 : e2_Q8)
noncomputable def q_c71_0 : ev_H := (cn639 : e2_Q8)
noncomputable def rs_c71 : e2_Rs := [((11, 2147483648, 2147483649), q_c71_0)]
noncomputable def s_c71 : e2_Sm := (61, as_c71, E_c71, f_c71, rs_c71)
noncomputable def S_c71 : List e2_Sm := [s_c38, s_c64]
noncomputable def I_c71 : List e2_In := [(19, 2, e2x_19), (20, 2, e2x_20)]
set_option maxRecDepth 1000000 in
theorem ck_c71 : e2_run (e2_cal S_c71 I_c71 4000 2) (e2_fin rs_c71) e2x_61 (fun _ => false) (fun _ _ _ _ _ => false) 4000 (e2_seek e2x_61 0) (e2_al 3 as_c71) [] E_c71 f_c71 = true := by decide +kernel
set_option maxRecDepth 1000000 in
theorem co_c71 : e2_okSB E_c71.length as_c71 f_c71 rs_c71 = true := by decide +kernel
theorem cs_c71 (hen : en_ok) (l : Launch) (hh : e2_hand_c l) : e2_smOk l 116 s_c71 := e2_con0 (H := 113) (n := 2) (C := evd_61) (S := S_c71) (I := I_c71) (fuel := 4000) [] hen ei_61 (e2_fa ((cs_c38 hen l hh).mono (by decide)) (e2_fa (cs_c64 hen l hh) e2_fz)) (e2_fa ein_19 (e2_fa ein_20 e2_fz)) (by decide) co_c71 ex2_61 ck_c71
/-! c72 X3_parseLevel -/
def as_c72 : List ev_V := [(2, 33, 0), (2, 11, 0), (0, 2, 0), (0, 4, 0)]
def E_c72 : e2_E := [(2147483648, 2147583648, 0, 0), (2147483652, 2147483668, 1, 0), (2147483648, 2147485248, 2, 0)]
noncomputable def f_c72 : ev_H := (cn639 : e2_Q8)
noncomputable def q_c72_0 : ev_H := (cn639 : e2_Q8)
noncomputable def rs_c72 : e2_Rs := [((11, 2147483648, 2147483649), q_c72_0)]
noncomputable def s_c72 : e2_Sm := (59, as_c72, E_c72, f_c72, rs_c72)
noncomputable def S_c72 : List e2_Sm := [s_c38, s_c70, s_c71]
noncomputable def I_c72 : List e2_In := [(19, 2, e2x_19), (20, 2, e2x_20), (60, 1, e2x_60)]
set_option maxRecDepth 1000000 in
theorem co_c72 : e2_okSB E_c72.length as_c72 f_c72 rs_c72 = true := by decide +kernel
def al_c72_0 : List ev_V := [(2, 33, 0), (2, 11, 0), (0, 2, 0), (0, 4, 0), (0, 1, 0), (1, 3, 4294967296), (9, 0, 0)]
def E_c72_0 : e2_E := [(2147483648, 2147583648, 0, 0), (2147483652, 2147483668, 1, 0), (2147483648, 2147485248, 2, 0), (2147483648, 2147483649, 3, 0)]
noncomputable def h_c72_0 : ev_H := (cn639 : e2_Q8)
noncomputable def cl_c72_e : List (Nat × e2_S) := [(66, e2_cutL (al_c72_0.set 5 (11, 2147483648, 2147483649)) 3 (E_c72_0.take 3) h_c72_0)]
set_option maxRecDepth 1000000 in
theorem ck_c72_e : e2_run (e2_cal S_c72 I_c72 4000 2) (e2_fin rs_c72) e2x_59 (e2_bpL cl_c72_e) (e2_cutA cl_c72_e) 4000 (e2_seek e2x_59 0) (e2_al 7 as_c72) [] E_c72 f_c72 = true := by decide +kernel
noncomputable def cl_c72_0 : List (Nat × e2_S) := [(66, e2_cutL (al_c72_0.set 5 (13, 11, 2147483649)) 3 (E_c72_0.take 3) h_c72_0)]
set_option maxRecDepth 1000000 in
theorem ck_c72_0 : e2_runM (e2_cal S_c72 I_c72 4000 2) (e2_fin rs_c72) e2x_59 (e2_bpL cl_c72_0) (e2_cutA cl_c72_0) 4000 (e2_seek e2x_59 66) al_c72_0 [] E_c72_0 h_c72_0 = true := by decide +kernel
set_option maxRecDepth 1000000 in
theorem ci_c72_0 : e2_idl 3 (al_c72_0.set 5 (9, 0, 0)) = true := by decide +kernel
set_option maxRecDepth 1000000 in
theorem cj_c72_0 : e2_idh 3 8 h_c72_0 = true := by decide +kernel
theorem cs_c72 (hen : en_ok) (l : Launch) (hh : e2_hand_c l) : e2_smOk l 132 s_c72 := by
  refine e2_conG (H := 129) (n := 2) (C := evd_59) (S := S_c72) (I := I_c72) (fuel := 4000) hen ei_59 (e2_fa ((cs_c38 hen l hh).mono (by decide)) (e2_fa (cs_c70 hen l hh) (e2_fa ((cs_c71 hen l hh).mono (by decide)) e2_fz))) (e2_fa ein_19 (e2_fa ein_20 (e2_fa ein_60 e2_fz))) (by decide) co_c72 fun M d _ hC hcall p e R s m args below meth c Q D cA A ads r0 ha hl0 => ?_
  have L_0 : e2_gdM M p l e R s m args below meth c Q D cA A ads r0 66 al_c72_0 [] E_c72_0 h_c72_0 := by
    refine e2_indL (u := 3) (j := 5) (lo := 2147483648) (hi := 2147483649) (b := 3) (dd := 0) hl0 (by decide) rfl rfl (Or.inr ⟨rfl, rfl⟩) rfl ci_c72_0 cj_c72_0 ?_
    intro r_0 k_0 hk_0 hp_0 hs_0 hn_0
    have hl_0 : r_0.length ≤ 4 := hs_0.len rfl
    have ha_0 := ha.ext hp_0
    exact e2_fromM hen ha_0 hcall (e2_cutA_ok (e2_fa (fun al st E h hc => hn_0 al st E h hc) e2_fz)) (hC []) (X := e2x_59) ex2_59 66 ck_c72_0
  have EN_0 := e2_entL (u := 3) (j := 5) (lo := 2147483648) (hi := 2147483649) hl0 rfl rfl rfl ci_c72_0 cj_c72_0 L_0
  exact e2_from hen ha hcall (e2_cutA_ok (e2_fa (fun al st E h hc => EN_0 al st E h hc) e2_fz)) (hC []) (X := e2x_59) ex2_59 0 ck_c72_e
/-! c73 X3_parseLevel -/
def as_c73 : List ev_V := [(2, 33, 0), (2, 11, 0), (0, 1, 0), (0, 4, 0)]
def E_c73 : e2_E := [(2147483648, 2147583648, 0, 0), (2147483652, 2147483668, 1, 0), (2147483648, 2147485248, 2, 0)]
noncomputable def f_c73 : ev_H := (cn639 : e2_Q8)
noncomputable def q_c73_0 : ev_H := (cn639 : e2_Q8)
noncomputable def rs_c73 : e2_Rs := [((11, 2147483648, 2147483649), q_c73_0)]
noncomputable def s_c73 : e2_Sm := (59, as_c73, E_c73, f_c73, rs_c73)
noncomputable def S_c73 : List e2_Sm := [s_c38, s_c72]
noncomputable def I_c73 : List e2_In := [(19, 2, e2x_19), (20, 2, e2x_20), (60, 1, e2x_60)]
set_option maxRecDepth 1000000 in
theorem co_c73 : e2_okSB E_c73.length as_c73 f_c73 rs_c73 = true := by decide +kernel
def al_c73_0 : List ev_V := [(2, 33, 0), (2, 11, 0), (0, 1, 0), (0, 4, 0), (0, 30, 0), (1, 3, 4294967296), (9, 0, 0)]
def E_c73_0 : e2_E := [(2147483648, 2147583648, 0, 0), (2147483652, 2147483668, 1, 0), (2147483648, 2147485248, 2, 0), (2147483648, 2147483678, 3, 0)]
noncomputable def h_c73_0 : ev_H := (cn639 : e2_Q8)
noncomputable def cl_c73_e : List (Nat × e2_S) := [(66, e2_cutL (al_c73_0.set 5 (11, 2147483648, 2147483678)) 3 (E_c73_0.take 3) h_c73_0)]
set_option maxRecDepth 1000000 in
theorem ck_c73_e : e2_run (e2_cal S_c73 I_c73 4000 2) (e2_fin rs_c73) e2x_59 (e2_bpL cl_c73_e) (e2_cutA cl_c73_e) 4000 (e2_seek e2x_59 0) (e2_al 7 as_c73) [] E_c73 f_c73 = true := by decide +kernel
noncomputable def cl_c73_0 : List (Nat × e2_S) := [(66, e2_cutL (al_c73_0.set 5 (13, 11, 2147483678)) 3 (E_c73_0.take 3) h_c73_0)]
set_option maxRecDepth 1000000 in
theorem ck_c73_0 : e2_runM (e2_cal S_c73 I_c73 4000 2) (e2_fin rs_c73) e2x_59 (e2_bpL cl_c73_0) (e2_cutA cl_c73_0) 4000 (e2_seek e2x_59 66) al_c73_0 [] E_c73_0 h_c73_0 = true := by decide +kernel
set_option maxRecDepth 1000000 in
theorem ci_c73_0 : e2_idl 3 (al_c73_0.set 5 (9, 0, 0)) = true := by decide +kernel
set_option maxRecDepth 1000000 in
theorem cj_c73_0 : e2_idh 3 8 h_c73_0 = true := by decide +kernel
theorem cs_c73 (hen : en_ok) (l : Launch) (hh : e2_hand_c l) : e2_smOk l 135 s_c73 := by
  refine e2_conG (H := 132) (n := 2) (C := evd_59) (S := S_c73) (I := I_c73) (fuel := 4000) hen ei_59 (e2_fa ((cs_c38 hen l hh).mono (by decide)) (e2_fa (cs_c72 hen l hh) e2_fz)) (e2_fa ein_19 (e2_fa ein_20 (e2_fa ein_60 e2_fz))) (by decide) co_c73 fun M d _ hC hcall p e R s m args below meth c Q D cA A ads r0 ha hl0 => ?_
  have L_0 : e2_gdM M p l e R s m args below meth c Q D cA A ads r0 66 al_c73_0 [] E_c73_0 h_c73_0 := by
    refine e2_indL (u := 3) (j := 5) (lo := 2147483648) (hi := 2147483678) (b := 3) (dd := 0) hl0 (by decide) rfl rfl (Or.inr ⟨rfl, rfl⟩) rfl ci_c73_0 cj_c73_0 ?_
    intro r_0 k_0 hk_0 hp_0 hs_0 hn_0
    have hl_0 : r_0.length ≤ 4 := hs_0.len rfl
    have ha_0 := ha.ext hp_0
    exact e2_fromM hen ha_0 hcall (e2_cutA_ok (e2_fa (fun al st E h hc => hn_0 al st E h hc) e2_fz)) (hC []) (X := e2x_59) ex2_59 66 ck_c73_0
  have EN_0 := e2_entL (u := 3) (j := 5) (lo := 2147483648) (hi := 2147483678) hl0 rfl rfl rfl ci_c73_0 cj_c73_0 L_0
  exact e2_from hen ha hcall (e2_cutA_ok (e2_fa (fun al st E h hc => EN_0 al st E h hc) e2_fz)) (hC []) (X := e2x_59) ex2_59 0 ck_c73_e
/-! c74 X3_parseLevel -/
def as_c74 : List ev_V := [(2, 33, 0), (2, 11, 0), (0, 0, 0), (0, 4, 0)]
def E_c74 : e2_E := [(2147483648, 2147583648, 0, 0), (2147483652, 2147483668, 1, 0), (2147483648, 2147485248, 2, 0)]
noncomputable def f_c74 : ev_H := (cn639 : e2_Q8)
noncomputable def q_c74_0 : ev_H := (cn639 : e2_Q8)
noncomputable def rs_c74 : e2_Rs := [((11, 2147483648, 2147483649), q_c74_0)]
noncomputable def s_c74 : e2_Sm := (59, as_c74, E_c74, f_c74, rs_c74)
noncomputable def S_c74 : List e2_Sm := [s_c38, s_c73]
noncomputable def I_c74 : List e2_In := [(19, 2, e2x_19), (20, 2, e2x_20), (60, 1, e2x_60)]
set_option maxRecDepth 1000000 in
theorem co_c74 : e2_okSB E_c74.length as_c74 f_c74 rs_c74 = true := by decide +kernel
def al_c74_0 : List ev_V := [(2, 33, 0), (2, 11, 0), (0, 0, 0), (0, 4, 0), (0, 30, 0), (1, 3, 4294967296), (9, 0, 0)]
def E_c74_0 : e2_E := [(2147483648, 2147583648, 0, 0), (2147483652, 2147483668, 1, 0), (2147483648, 2147485248, 2, 0), (2147483648, 2147483678, 3, 0)]
noncomputable def h_c74_0 : ev_H := (cn639 : e2_Q8)
noncomputable def cl_c74_e : List (Nat × e2_S) := [(66, e2_cutL (al_c74_0.set 5 (11, 2147483648, 2147483678)) 3 (E_c74_0.take 3) h_c74_0)]
set_option maxRecDepth 1000000 in
theorem ck_c74_e : e2_run (e2_cal S_c74 I_c74 4000 2) (e2_fin rs_c74) e2x_59 (e2_bpL cl_c74_e) (e2_cutA cl_c74_e) 4000 (e2_seek e2x_59 0) (e2_al 7 as_c74) [] E_c74 f_c74 = true := by decide +kernel
noncomputable def cl_c74_0 : List (Nat × e2_S) := [(66, e2_cutL (al_c74_0.set 5 (13, 11, 2147483678)) 3 (E_c74_0.take 3) h_c74_0)]
set_option maxRecDepth 1000000 in
theorem ck_c74_0 : e2_runM (e2_cal S_c74 I_c74 4000 2) (e2_fin rs_c74) e2x_59 (e2_bpL cl_c74_0) (e2_cutA cl_c74_0) 4000 (e2_seek e2x_59 66) al_c74_0 [] E_c74_0 h_c74_0 = true := by decide +kernel
set_option maxRecDepth 1000000 in
theorem ci_c74_0 : e2_idl 3 (al_c74_0.set 5 (9, 0, 0)) = true := by decide +kernel
set_option maxRecDepth 1000000 in
theorem cj_c74_0 : e2_idh 3 8 h_c74_0 = true := by decide +kernel
theorem cs_c74 (hen : en_ok) (l : Launch) (hh : e2_hand_c l) : e2_smOk l 138 s_c74 := by
  refine e2_conG (H := 135) (n := 2) (C := evd_59) (S := S_c74) (I := I_c74) (fuel := 4000) hen ei_59 (e2_fa ((cs_c38 hen l hh).mono (by decide)) (e2_fa (cs_c73 hen l hh) e2_fz)) (e2_fa ein_19 (e2_fa ein_20 (e2_fa ein_60 e2_fz))) (by decide) co_c74 fun M d _ hC hcall p e R s m args below meth c Q D cA A ads r0 ha hl0 => ?_
  have L_0 : e2_gdM M p l e R s m args below meth c Q D cA A ads r0 66 al_c74_0 [] E_c74_0 h_c74_0 := by
    refine e2_indL (u := 3) (j := 5) (lo := 2147483648) (hi := 2147483678) (b := 3) (dd := 0) hl0 (by decide) rfl rfl (Or.inr ⟨rfl, rfl⟩) rfl ci_c74_0 cj_c74_0 ?_
    intro r_0 k_0 hk_0 hp_0 hs_0 hn_0
    have hl_0 : r_0.length ≤ 4 := hs_0.len rfl
    have ha_0 := ha.ext hp_0
    exact e2_fromM hen ha_0 hcall (e2_cutA_ok (e2_fa (fun al st E h hc => hn_0 al st E h hc) e2_fz)) (hC []) (X := e2x_59) ex2_59 66 ck_c74_0
  have EN_0 := e2_entL (u := 3) (j := 5) (lo := 2147483648) (hi := 2147483678) hl0 rfl rfl rfl ci_c74_0 cj_c74_0 L_0
  exact e2_from hen ha hcall (e2_cutA_ok (e2_fa (fun al st E h hc => EN_0 al st E h hc) e2_fz)) (hC []) (X := e2x_59) ex2_59 0 ck_c74_e
/-! c75 X3_parseUnit -/
def as_c75 : List ev_V := [(2, 33, 0), (2, 11, 0), (0, 3, 0)]
def E_c75 : e2_E := [(2147483648, 2147583648, 0, 0), (2147483652, 2147483668, 1, 0), (2147483648, 2147485248, 2, 0)]
noncomputable def f_c75 : ev_H := (cn639 : e2_Q8)
noncomputable def q_c75_0 : ev_H := (cn639 : e2_Q8)
noncomputable def rs_c75 : e2_Rs := [((11, 2147483648, 2147483649), q_c75_0)]
noncomputable def s_c75 : e2_Sm := (62, as_c75, E_c75, f_c75, rs_c75)
noncomputable def S_c75 : List e2_Sm := [s_c38, s_c39, s_c74]
noncomputable def I_c75 : List e2_In := [(18, 2, e2x_18), (19, 2, e2x_19), (20, 2, e2x_20), (43, 2, e2x_43), (44, 3, e2x_44)]
set_option maxRecDepth 1000000 in
theorem ck_c75 : e2_run (e2_cal S_c75 I_c75 4000 2) (e2_fin rs_c75) e2x_62 (fun _ => false) (fun _ _ _ _ _ => false) 4000 (e2_seek e2x_62 0) (e2_al 7 as_c75) [] E_c75 f_c75 = true := by decide +kernel
set_option maxRecDepth 1000000 in
theorem co_c75 : e2_okSB E_c75.length as_c75 f_c75 rs_c75 = true := by decide +kernel
theorem cs_c75 (hen : en_ok) (l : Launch) (hh : e2_hand_c l) : e2_smOk l 141 s_c75 := e2_con0 (H := 138) (n := 2) (C := evd_62) (S := S_c75) (I := I_c75) (fuel := 4000) [] hen ei_62 (e2_fa ((cs_c38 hen l hh).mono (by decide)) (e2_fa ((cs_c39 hen l hh).mono (by decide)) (e2_fa (cs_c74 hen l hh) e2_fz))) (e2_fa ein_18 (e2_fa ein_19 (e2_fa ein_20 (e2_fa ein_43 (e2_fa ein_44 e2_fz))))) (by decide) co_c75 ex2_62 ck_c75
/-! c76 X3_parseLevel -/
def as_c76 : List ev_V := [(2, 33, 0), (2, 11, 0), (0, 5, 0), (0, 3, 0)]
def E_c76 : e2_E := [(2147483648, 2147583648, 0, 0), (2147483652, 2147483668, 1, 0), (2147483648, 2147485248, 2, 0)]
noncomputable def f_c76 : ev_H := (cn639 : e2_Q8)
noncomputable def q_c76_0 : ev_H := (cn639 : e2_Q8)
noncomputable def rs_c76 : e2_Rs := [((11, 2147483648, 2147483649), q_c76_0)]
noncomputable def s_c76 : e2_Sm := (59, as_c76, E_c76, f_c76, rs_c76)
noncomputable def S_c76 : List e2_Sm := [s_c75]
noncomputable def I_c76 : List e2_In := []
set_option maxRecDepth 1000000 in
theorem ck_c76 : e2_run (e2_cal S_c76 I_c76 4000 0) (e2_fin rs_c76) e2x_59 (fun _ => false) (fun _ _ _ _ _ => false) 4000 (e2_seek e2x_59 0) (e2_al 7 as_c76) [] E_c76 f_c76 = true := by decide +kernel
set_option maxRecDepth 1000000 in
theorem co_c76 : e2_okSB E_c76.length as_c76 f_c76 rs_c76 = true := by decide +kernel
theorem cs_c76 (hen : en_ok) (l : Launch) (hh : e2_hand_c l) : e2_smOk l 142 s_c76 := e2_con0 (H := 141) (n := 0) (C := evd_59) (S := S_c76) (I := I_c76) (fuel := 4000) [] hen ei_59 (e2_fa (cs_c75 hen l hh) e2_fz) e2_fz (by decide) co_c76 ex2_59 ck_c76
/-! c77 X3_parseLevel -/
def as_c77 : List ev_V := [(2, 33, 0), (2, 11, 0), (0, 4, 0), (0, 3, 0)]
def E_c77 : e2_E := [(2147483648, 2147583648, 0, 0), (2147483652, 2147483668, 1, 0), (2147483648, 2147485248, 2, 0)]
noncomputable def f_c77 : ev_H := (cn639 : e2_Q8)
noncomputable def q_c77_0 : ev_H := (cn639 : e2_Q8)
noncomputable def rs_c77 : e2_Rs := [((11, 2147483648, 2147483649), q_c77_0)]
noncomputable def s_c77 : e2_Sm := (59, as_c77, E_c77, f_c77, rs_c77)
noncomputable def S_c77 : List e2_Sm := [s_c38, s_c76]
noncomputable def I_c77 : List e2_In := [(19, 2, e2x_19), (20, 2, e2x_20), (60, 1, e2x_60)]
set_option maxRecDepth 1000000 in
theorem co_c77 : e2_okSB E_c77.length as_c77 f_c77 rs_c77 = true := by decide +kernel
def al_c77_0 : List ev_V := [(2, 33, 0), (2, 11, 0), (0, 4, 0), (0, 3, 0), (0, 30, 0), (1, 3, 4294967296), (9, 0, 0)]
def E_c77_0 : e2_E := [(2147483648, 2147583648, 0, 0), (2147483652, 2147483668, 1, 0), (2147483648, 2147485248, 2, 0), (2147483648, 2147483678, 3, 0)]
noncomputable def h_c77_0 : ev_H := (cn639 : e2_Q8)
noncomputable def cl_c77_e : List (Nat × e2_S) := [(66, e2_cutL (al_c77_0.set 5 (11, 2147483648, 2147483678)) 3 (E_c77_0.take 3) h_c77_0)]
set_option maxRecDepth 1000000 in
theorem ck_c77_e : e2_run (e2_cal S_c77 I_c77 4000 2) (e2_fin rs_c77) e2x_59 (e2_bpL cl_c77_e) (e2_cutA cl_c77_e) 4000 (e2_seek e2x_59 0) (e2_al 7 as_c77) [] E_c77 f_c77 = true := by decide +kernel
noncomputable def cl_c77_0 : List (Nat × e2_S) := [(66, e2_cutL (al_c77_0.set 5 (13, 11, 2147483678)) 3 (E_c77_0.take 3) h_c77_0)]
set_option maxRecDepth 1000000 in
theorem ck_c77_0 : e2_runM (e2_cal S_c77 I_c77 4000 2) (e2_fin rs_c77) e2x_59 (e2_bpL cl_c77_0) (e2_cutA cl_c77_0) 4000 (e2_seek e2x_59 66) al_c77_0 [] E_c77_0 h_c77_0 = true := by decide +kernel
set_option maxRecDepth 1000000 in
theorem ci_c77_0 : e2_idl 3 (al_c77_0.set 5 (9, 0, 0)) = true := by decide +kernel
set_option maxRecDepth 1000000 in
theorem cj_c77_0 : e2_idh 3 8 h_c77_0 = true := by decide +kernel
theorem cs_c77 (hen : en_ok) (l : Launch) (hh : e2_hand_c l) : e2_smOk l 145 s_c77 := by
  refine e2_conG (H := 142) (n := 2) (C := evd_59) (S := S_c77) (I := I_c77) (fuel := 4000) hen ei_59 (e2_fa ((cs_c38 hen l hh).mono (by decide)) (e2_fa (cs_c76 hen l hh) e2_fz)) (e2_fa ein_19 (e2_fa ein_20 (e2_fa ein_60 e2_fz))) (by decide) co_c77 fun M d _ hC hcall p e R s m args below meth c Q D cA A ads r0 ha hl0 => ?_
  have L_0 : e2_gdM M p l e R s m args below meth c Q D cA A ads r0 66 al_c77_0 [] E_c77_0 h_c77_0 := by
    refine e2_indL (u := 3) (j := 5) (lo := 2147483648) (hi := 2147483678) (b := 3) (dd := 0) hl0 (by decide) rfl rfl (Or.inr ⟨rfl, rfl⟩) rfl ci_c77_0 cj_c77_0 ?_
    intro r_0 k_0 hk_0 hp_0 hs_0 hn_0
    have hl_0 : r_0.length ≤ 4 := hs_0.len rfl
    have ha_0 := ha.ext hp_0
    exact e2_fromM hen ha_0 hcall (e2_cutA_ok (e2_fa (fun al st E h hc => hn_0 al st E h hc) e2_fz)) (hC []) (X := e2x_59) ex2_59 66 ck_c77_0
  have EN_0 := e2_entL (u := 3) (j := 5) (lo := 2147483648) (hi := 2147483678) hl0 rfl rfl rfl ci_c77_0 cj_c77_0 L_0
  exact e2_from hen ha hcall (e2_cutA_ok (e2_fa (fun al st E h hc => EN_0 al st E h hc) e2_fz)) (hC []) (X := e2x_59) ex2_59 0 ck_c77_e
/-! c78 X3_parseLevel -/
def as_c78 : List ev_V := [(2, 33, 0), (2, 11, 0), (0, 3, 0), (0, 3, 0)]
def E_c78 : e2_E := [(2147483648, 2147583648, 0, 0), (2147483652, 2147483668, 1, 0), (2147483648, 2147485248, 2, 0)]
noncomputable def f_c78 : ev_H := (cn639 : e2_Q8)
noncomputable def q_c78_0 : ev_H := (cn639 : e2_Q8)
noncomputable def rs_c78 : e2_Rs := [((11, 2147483648, 2147483649), q_c78_0)]
noncomputable def s_c78 : e2_Sm := (59, as_c78, E_c78, f_c78, rs_c78)
noncomputable def S_c78 : List e2_Sm := [s_c38, s_c77]
noncomputable def I_c78 : List e2_In := [(19, 2, e2x_19), (20, 2, e2x_20), (60, 1, e2x_60)]
set_option maxRecDepth 1000000 in
theorem co_c78 : e2_okSB E_c78.length as_c78 f_c78 rs_c78 = true := by decide +kernel
def al_c78_0 : List ev_V := [(2, 33, 0), (2, 11, 0), (0, 3, 0), (0, 3, 0), (0, 30, 0), (1, 3, 4294967296), (9, 0, 0)]
def E_c78_0 : e2_E := [(2147483648, 2147583648, 0, 0), (2147483652, 2147483668, 1, 0), (2147483648, 2147485248, 2, 0), (2147483648, 2147483678, 3, 0)]
noncomputable def h_c78_0 : ev_H := (cn639 : e2_Q8)
noncomputable def cl_c78_e : List (Nat × e2_S) := [(66, e2_cutL (al_c78_0.set 5 (11, 2147483648, 2147483678)) 3 (E_c78_0.take 3) h_c78_0)]
set_option maxRecDepth 1000000 in
theorem ck_c78_e : e2_run (e2_cal S_c78 I_c78 4000 2) (e2_fin rs_c78) e2x_59 (e2_bpL cl_c78_e) (e2_cutA cl_c78_e) 4000 (e2_seek e2x_59 0) (e2_al 7 as_c78) [] E_c78 f_c78 = true := by decide +kernel
noncomputable def cl_c78_0 : List (Nat × e2_S) := [(66, e2_cutL (al_c78_0.set 5 (13, 11, 2147483678)) 3 (E_c78_0.take 3) h_c78_0)]
set_option maxRecDepth 1000000 in
theorem ck_c78_0 : e2_runM (e2_cal S_c78 I_c78 4000 2) (e2_fin rs_c78) e2x_59 (e2_bpL cl_c78_0) (e2_cutA cl_c78_0) 4000 (e2_seek e2x_59 66) al_c78_0 [] E_c78_0 h_c78_0 = true := by decide +kernel
set_option maxRecDepth 1000000 in
theorem ci_c78_0 : e2_idl 3 (al_c78_0.set 5 (9, 0, 0)) = true := by decide +kernel
set_option maxRecDepth 1000000 in
theorem cj_c78_0 : e2_idh 3 8 h_c78_0 = true := by decide +kernel
theorem cs_c78 (hen : en_ok) (l : Launch) (hh : e2_hand_c l) : e2_smOk l 148 s_c78 := by
  refine e2_conG (H := 145) (n := 2) (C := evd_59) (S := S_c78) (I := I_c78) (fuel := 4000) hen ei_59 (e2_fa ((cs_c38 hen l hh).mono (by decide)) (e2_fa (cs_c77 hen l hh) e2_fz)) (e2_fa ein_19 (e2_fa ein_20 (e2_fa ein_60 e2_fz))) (by decide) co_c78 fun M d _ hC hcall p e R s m args below meth c Q D cA A ads r0 ha hl0 => ?_
  have L_0 : e2_gdM M p l e R s m args below meth c Q D cA A ads r0 66 al_c78_0 [] E_c78_0 h_c78_0 := by
    refine e2_indL (u := 3) (j := 5) (lo := 2147483648) (hi := 2147483678) (b := 3) (dd := 0) hl0 (by decide) rfl rfl (Or.inr ⟨rfl, rfl⟩) rfl ci_c78_0 cj_c78_0 ?_
    intro r_0 k_0 hk_0 hp_0 hs_0 hn_0
    have hl_0 : r_0.length ≤ 4 := hs_0.len rfl
    have ha_0 := ha.ext hp_0
    exact e2_fromM hen ha_0 hcall (e2_cutA_ok (e2_fa (fun al st E h hc => hn_0 al st E h hc) e2_fz)) (hC []) (X := e2x_59) ex2_59 66 ck_c78_0
  have EN_0 := e2_entL (u := 3) (j := 5) (lo := 2147483648) (hi := 2147483678) hl0 rfl rfl rfl ci_c78_0 cj_c78_0 L_0
  exact e2_from hen ha hcall (e2_cutA_ok (e2_fa (fun al st E h hc => EN_0 al st E h hc) e2_fz)) (hC []) (X := e2x_59) ex2_59 0 ck_c78_e
/-! c79 X3_parseNot -/
def as_c79 : List ev_V := [(2, 33, 0), (2, 11, 0), (0, 3, 0)]
def E_c79 : e2_E := [(2147483648, 2147583648, 0, 0), (2147483652, 2147483668, 1, 0), (2147483648, 2147485248, 2, 0)]
noncomputable def f_c79 : ev_H := (cn639 : e2_Q8)
noncomputable def q_c79_0 : ev_H := (cn639 : e2_Q8)
noncomputable def rs_c79 : e2_Rs := [((11, 2147483648, 2147483649), q_c79_0)]
noncomputable def s_c79 : e2_Sm := (61, as_c79, E_c79, f_c79, rs_c79)
noncomputable def S_c79 : List e2_Sm := [s_c38, s_c72]
noncomputable def I_c79 : List e2_In := [(19, 2, e2x_19), (20, 2, e2x_20)]
set_option maxRecDepth 1000000 in
theorem ck_c79 : e2_run (e2_cal S_c79 I_c79 4000 2) (e2_fin rs_c79) e2x_61 (fun _ => false) (fun _ _ _ _ _ => false) 4000 (e2_seek e2x_61 0) (e2_al 3 as_c79) [] E_c79 f_c79 = true := by decide +kernel
set_option maxRecDepth 1000000 in
theorem co_c79 : e2_okSB E_c79.length as_c79 f_c79 rs_c79 = true := by decide +kernel
theorem cs_c79 (hen : en_ok) (l : Launch) (hh : e2_hand_c l) : e2_smOk l 135 s_c79 := e2_con0 (H := 132) (n := 2) (C := evd_61) (S := S_c79) (I := I_c79) (fuel := 4000) [] hen ei_61 (e2_fa ((cs_c38 hen l hh).mono (by decide)) (e2_fa (cs_c72 hen l hh) e2_fz)) (e2_fa ein_19 (e2_fa ein_20 e2_fz)) (by decide) co_c79 ex2_61 ck_c79
/-! c80 X3_parseLevel -/
def as_c80 : List ev_V := [(2, 33, 0), (2, 11, 0), (0, 2, 0), (0, 3, 0)]
def E_c80 : e2_E := [(2147483648, 2147583648, 0, 0), (2147483652, 2147483668, 1, 0), (2147483648, 2147485248, 2, 0)]
noncomputable def f_c80 : ev_H := (cn639 : e2_Q8)
noncomputable def q_c80_0 : ev_H := (cn639 : e2_Q8)
noncomputable def rs_c80 : e2_Rs := [((11, 2147483648, 2147483649), q_c80_0)]
noncomputable def s_c80 : e2_Sm := (59, as_c80, E_c80, f_c80, rs_c80)
noncomputable def S_c80 : List e2_Sm := [s_c38, s_c78, s_c79]
noncomputable def I_c80 : List e2_In := [(19, 2, e2x_19), (20, 2, e2x_20), (60, 1, e2x_60)]
set_option maxRecDepth 1000000 in
theorem co_c80 : e2_okSB E_c80.length as_c80 f_c80 rs_c80 = true := by decide +kernel
def al_c80_0 : List ev_V := [(2, 33, 0), (2, 11, 0), (0, 2, 0), (0, 3, 0), (0, 1, 0), (1, 3, 4294967296), (9, 0, 0)]
def E_c80_0 : e2_E := [(2147483648, 2147583648, 0, 0), (2147483652, 2147483668, 1, 0), (2147483648, 2147485248, 2, 0), (2147483648, 2147483649, 3, 0)]
noncomputable def h_c80_0 : ev_H := (cn639 : e2_Q8)
noncomputable def cl_c80_e : List (Nat × e2_S) := [(66, e2_cutL (al_c80_0.set 5 (11, 2147483648, 2147483649)) 3 (E_c80_0.take 3) h_c80_0)]
set_option maxRecDepth 1000000 in
theorem ck_c80_e : e2_run (e2_cal S_c80 I_c80 4000 2) (e2_fin rs_c80) e2x_59 (e2_bpL cl_c80_e) (e2_cutA cl_c80_e) 4000 (e2_seek e2x_59 0) (e2_al 7 as_c80) [] E_c80 f_c80 = true := by decide +kernel
noncomputable def cl_c80_0 : List (Nat × e2_S) := [(66, e2_cutL (al_c80_0.set 5 (13, 11, 2147483649)) 3 (E_c80_0.take 3) h_c80_0)]
set_option maxRecDepth 1000000 in
theorem ck_c80_0 : e2_runM (e2_cal S_c80 I_c80 4000 2) (e2_fin rs_c80) e2x_59 (e2_bpL cl_c80_0) (e2_cutA cl_c80_0) 4000 (e2_seek e2x_59 66) al_c80_0 [] E_c80_0 h_c80_0 = true := by decide +kernel
set_option maxRecDepth 1000000 in
theorem ci_c80_0 : e2_idl 3 (al_c80_0.set 5 (9, 0, 0)) = true := by decide +kernel
set_option maxRecDepth 1000000 in
theorem cj_c80_0 : e2_idh 3 8 h_c80_0 = true := by decide +kernel
theorem cs_c80 (hen : en_ok) (l : Launch) (hh : e2_hand_c l) : e2_smOk l 151 s_c80 := by
  refine e2_conG (H := 148) (n := 2) (C := evd_59) (S := S_c80) (I := I_c80) (fuel := 4000) hen ei_59 (e2_fa ((cs_c38 hen l hh).mono (by decide)) (e2_fa (cs_c78 hen l hh) (e2_fa ((cs_c79 hen l hh).mono (by decide)) e2_fz))) (e2_fa ein_19 (e2_fa ein_20 (e2_fa ein_60 e2_fz))) (by decide) co_c80 fun M d _ hC hcall p e R s m args below meth c Q D cA A ads r0 ha hl0 => ?_
  have L_0 : e2_gdM M p l e R s m args below meth c Q D cA A ads r0 66 al_c80_0 [] E_c80_0 h_c80_0 := by
    refine e2_indL (u := 3) (j := 5) (lo := 2147483648) (hi := 2147483649) (b := 3) (dd := 0) hl0 (by decide) rfl rfl (Or.inr ⟨rfl, rfl⟩) rfl ci_c80_0 cj_c80_0 ?_
    intro r_0 k_0 hk_0 hp_0 hs_0 hn_0
    have hl_0 : r_0.length ≤ 4 := hs_0.len rfl
    have ha_0 := ha.ext hp_0
    exact e2_fromM hen ha_0 hcall (e2_cutA_ok (e2_fa (fun al st E h hc => hn_0 al st E h hc) e2_fz)) (hC []) (X := e2x_59) ex2_59 66 ck_c80_0
  have EN_0 := e2_entL (u := 3) (j := 5) (lo := 2147483648) (hi := 2147483649) hl0 rfl rfl rfl ci_c80_0 cj_c80_0 L_0
  exact e2_from hen ha hcall (e2_cutA_ok (e2_fa (fun al st E h hc => EN_0 al st E h hc) e2_fz)) (hC []) (X := e2x_59) ex2_59 0 ck_c80_e
/-! c81 X3_parseLevel -/
def as_c81 : List ev_V := [(2, 33, 0), (2, 11, 0), (0, 1, 0), (0, 3, 0)]
def E_c81 : e2_E := [(2147483648, 2147583648, 0, 0), (2147483652, 2147483668, 1, 0), (2147483648, 2147485248, 2, 0)]
noncomputable def f_c81 : ev_H := (cn639 : e2_Q8)
noncomputable def q_c81_0 : ev_H := (cn639 : e2_Q8)
noncomputable def rs_c81 : e2_Rs := [((11, 2147483648, 2147483649), q_c81_0)]
noncomputable def s_c81 : e2_Sm := (59, as_c81, E_c81, f_c81, rs_c81)
noncomputable def S_c81 : List e2_Sm := [s_c38, s_c80]
noncomputable def I_c81 : List e2_In := [(19, 2, e2x_19), (20, 2, e2x_20), (60, 1, e2x_60)]
set_option maxRecDepth 1000000 in
theorem co_c81 : e2_okSB E_c81.length as_c81 f_c81 rs_c81 = true := by decide +kernel
def al_c81_0 : List ev_V := [(2, 33, 0), (2, 11, 0), (0, 1, 0), (0, 3, 0), (0, 30, 0), (1, 3, 4294967296), (9, 0, 0)]
def E_c81_0 : e2_E := [(2147483648, 2147583648, 0, 0), (2147483652, 2147483668, 1, 0), (2147483648, 2147485248, 2, 0), (2147483648, 2147483678, 3, 0)]
noncomputable def h_c81_0 : ev_H := (cn639 : e2_Q8)
noncomputable def cl_c81_e : List (Nat × e2_S) := [(66, e2_cutL (al_c81_0.set 5 (11, 2147483648, 2147483678)) 3 (E_c81_0.take 3) h_c81_0)]
set_option maxRecDepth 1000000 in
theorem ck_c81_e : e2_run (e2_cal S_c81 I_c81 4000 2) (e2_fin rs_c81) e2x_59 (e2_bpL cl_c81_e) (e2_cutA cl_c81_e) 4000 (e2_seek e2x_59 0) (e2_al 7 as_c81) [] E_c81 f_c81 = true := by decide +kernel
noncomputable def cl_c81_0 : List (Nat × e2_S) := [(66, e2_cutL (al_c81_0.set 5 (13, 11, 2147483678)) 3 (E_c81_0.take 3) h_c81_0)]
set_option maxRecDepth 1000000 in
theorem ck_c81_0 : e2_runM (e2_cal S_c81 I_c81 4000 2) (e2_fin rs_c81) e2x_59 (e2_bpL cl_c81_0) (e2_cutA cl_c81_0) 4000 (e2_seek e2x_59 66) al_c81_0 [] E_c81_0 h_c81_0 = true := by decide +kernel
set_option maxRecDepth 1000000 in
theorem ci_c81_0 : e2_idl 3 (al_c81_0.set 5 (9, 0, 0)) = true := by decide +kernel
set_option maxRecDepth 1000000 in
theorem cj_c81_0 : e2_idh 3 8 h_c81_0 = true := by decide +kernel
theorem cs_c81 (hen : en_ok) (l : Launch) (hh : e2_hand_c l) : e2_smOk l 154 s_c81 := by
  refine e2_conG (H := 151) (n := 2) (C := evd_59) (S := S_c81) (I := I_c81) (fuel := 4000) hen ei_59 (e2_fa ((cs_c38 hen l hh).mono (by decide)) (e2_fa (cs_c80 hen l hh) e2_fz)) (e2_fa ein_19 (e2_fa ein_20 (e2_fa ein_60 e2_fz))) (by decide) co_c81 fun M d _ hC hcall p e R s m args below meth c Q D cA A ads r0 ha hl0 => ?_
  have L_0 : e2_gdM M p l e R s m args below meth c Q D cA A ads r0 66 al_c81_0 [] E_c81_0 h_c81_0 := by
    refine e2_indL (u := 3) (j := 5) (lo := 2147483648) (hi := 2147483678) (b := 3) (dd := 0) hl0 (by decide) rfl rfl (Or.inr ⟨rfl, rfl⟩) rfl ci_c81_0 cj_c81_0 ?_
    intro r_0 k_0 hk_0 hp_0 hs_0 hn_0
    have hl_0 : r_0.length ≤ 4 := hs_0.len rfl
    have ha_0 := ha.ext hp_0
    exact e2_fromM hen ha_0 hcall (e2_cutA_ok (e2_fa (fun al st E h hc => hn_0 al st E h hc) e2_fz)) (hC []) (X := e2x_59) ex2_59 66 ck_c81_0
  have EN_0 := e2_entL (u := 3) (j := 5) (lo := 2147483648) (hi := 2147483678) hl0 rfl rfl rfl ci_c81_0 cj_c81_0 L_0
  exact e2_from hen ha hcall (e2_cutA_ok (e2_fa (fun al st E h hc => EN_0 al st E h hc) e2_fz)) (hC []) (X := e2x_59) ex2_59 0 ck_c81_e
/-! c82 X3_parseLevel -/
def as_c82 : List ev_V := [(2, 33, 0), (2, 11, 0), (0, 0, 0), (0, 3, 0)]
def E_c82 : e2_E := [(2147483648, 2147583648, 0, 0), (2147483652, 2147483668, 1, 0), (2147483648, 2147485248, 2, 0)]
noncomputable def f_c82 : ev_H := (cn639 : e2_Q8)
noncomputable def q_c82_0 : ev_H := (cn639 : e2_Q8)
noncomputable def rs_c82 : e2_Rs := [((11, 2147483648, 2147483649), q_c82_0)]
noncomputable def s_c82 : e2_Sm := (59, as_c82, E_c82, f_c82, rs_c82)
noncomputable def S_c82 : List e2_Sm := [s_c38, s_c81]
noncomputable def I_c82 : List e2_In := [(19, 2, e2x_19), (20, 2, e2x_20), (60, 1, e2x_60)]
set_option maxRecDepth 1000000 in
theorem co_c82 : e2_okSB E_c82.length as_c82 f_c82 rs_c82 = true := by decide +kernel
def al_c82_0 : List ev_V := [(2, 33, 0), (2, 11, 0), (0, 0, 0), (0, 3, 0), (0, 30, 0), (1, 3, 4294967296), (9, 0, 0)]
def E_c82_0 : e2_E := [(2147483648, 2147583648, 0, 0), (2147483652, 2147483668, 1, 0), (2147483648, 2147485248, 2, 0), (2147483648, 2147483678, 3, 0)]
noncomputable def h_c82_0 : ev_H := (cn639 : e2_Q8)
noncomputable def cl_c82_e : List (Nat × e2_S) := [(66, e2_cutL (al_c82_0.set 5 (11, 2147483648, 2147483678)) 3 (E_c82_0.take 3) h_c82_0)]
set_option maxRecDepth 1000000 in
theorem ck_c82_e : e2_run (e2_cal S_c82 I_c82 4000 2) (e2_fin rs_c82) e2x_59 (e2_bpL cl_c82_e) (e2_cutA cl_c82_e) 4000 (e2_seek e2x_59 0) (e2_al 7 as_c82) [] E_c82 f_c82 = true := by decide +kernel
noncomputable def cl_c82_0 : List (Nat × e2_S) := [(66, e2_cutL (al_c82_0.set 5 (13, 11, 2147483678)) 3 (E_c82_0.take 3) h_c82_0)]
set_option maxRecDepth 1000000 in
theorem ck_c82_0 : e2_runM (e2_cal S_c82 I_c82 4000 2) (e2_fin rs_c82) e2x_59 (e2_bpL cl_c82_0) (e2_cutA cl_c82_0) 4000 (e2_seek e2x_59 66) al_c82_0 [] E_c82_0 h_c82_0 = true := by decide +kernel
set_option maxRecDepth 1000000 in
theorem ci_c82_0 : e2_idl 3 (al_c82_0.set 5 (9, 0, 0)) = true := by decide +kernel
set_option maxRecDepth 1000000 in
theorem cj_c82_0 : e2_idh 3 8 h_c82_0 = true := by decide +kernel
theorem cs_c82 (hen : en_ok) (l : Launch) (hh : e2_hand_c l) : e2_smOk l 157 s_c82 := by
  refine e2_conG (H := 154) (n := 2) (C := evd_59) (S := S_c82) (I := I_c82) (fuel := 4000) hen ei_59 (e2_fa ((cs_c38 hen l hh).mono (by decide)) (e2_fa (cs_c81 hen l hh) e2_fz)) (e2_fa ein_19 (e2_fa ein_20 (e2_fa ein_60 e2_fz))) (by decide) co_c82 fun M d _ hC hcall p e R s m args below meth c Q D cA A ads r0 ha hl0 => ?_
  have L_0 : e2_gdM M p l e R s m args below meth c Q D cA A ads r0 66 al_c82_0 [] E_c82_0 h_c82_0 := by
    refine e2_indL (u := 3) (j := 5) (lo := 2147483648) (hi := 2147483678) (b := 3) (dd := 0) hl0 (by decide) rfl rfl (Or.inr ⟨rfl, rfl⟩) rfl ci_c82_0 cj_c82_0 ?_
    intro r_0 k_0 hk_0 hp_0 hs_0 hn_0
    have hl_0 : r_0.length ≤ 4 := hs_0.len rfl
    have ha_0 := ha.ext hp_0
    exact e2_fromM hen ha_0 hcall (e2_cutA_ok (e2_fa (fun al st E h hc => hn_0 al st E h hc) e2_fz)) (hC []) (X := e2x_59) ex2_59 66 ck_c82_0
  have EN_0 := e2_entL (u := 3) (j := 5) (lo := 2147483648) (hi := 2147483678) hl0 rfl rfl rfl ci_c82_0 cj_c82_0 L_0
  exact e2_from hen ha hcall (e2_cutA_ok (e2_fa (fun al st E h hc => EN_0 al st E h hc) e2_fz)) (hC []) (X := e2x_59) ex2_59 0 ck_c82_e
/-! c83 X3_parseUnit -/
def as_c83 : List ev_V := [(2, 33, 0), (2, 11, 0), (0, 2, 0)]
def E_c83 : e2_E := [(2147483648, 2147583648, 0, 0), (2147483652, 2147483668, 1, 0), (2147483648, 2147485248, 2, 0)]
noncomputable def f_c83 : ev_H := (cn639 : e2_Q8)
noncomputable def q_c83_0 : ev_H := (cn639 : e2_Q8)
noncomputable def rs_c83 : e2_Rs := [((11, 2147483648, 2147483649), q_c83_0)]
noncomputable def s_c83 : e2_Sm := (62, as_c83, E_c83, f_c83, rs_c83)
noncomputable def S_c83 : List e2_Sm := [s_c38, s_c39, s_c82]
noncomputable def I_c83 : List e2_In := [(18, 2, e2x_18), (19, 2, e2x_19), (20, 2, e2x_20), (43, 2, e2x_43), (44, 3, e2x_44)]
set_option maxRecDepth 1000000 in
theorem ck_c83 : e2_run (e2_cal S_c83 I_c83 4000 2) (e2_fin rs_c83) e2x_62 (fun _ => false) (fun _ _ _ _ _ => false) 4000 (e2_seek e2x_62 0) (e2_al 7 as_c83) [] E_c83 f_c83 = true := by decide +kernel
set_option maxRecDepth 1000000 in
theorem co_c83 : e2_okSB E_c83.length as_c83 f_c83 rs_c83 = true := by decide +kernel
theorem cs_c83 (hen : en_ok) (l : Launch) (hh : e2_hand_c l) : e2_smOk l 160 s_c83 := e2_con0 (H := 157) (n := 2) (C := evd_62) (S := S_c83) (I := I_c83) (fuel := 4000) [] hen ei_62 (e2_fa ((cs_c38 hen l hh).mono (by decide)) (e2_fa ((cs_c39 hen l hh).mono (by decide)) (e2_fa (cs_c82 hen l hh) e2_fz))) (e2_fa ein_18 (e2_fa ein_19 (e2_fa ein_20 (e2_fa ein_43 (e2_fa ein_44 e2_fz))))) (by decide) co_c83 ex2_62 ck_c83
/-! c84 X3_parseLevel -/
def as_c84 : List ev_V := [(2, 33, 0), (2, 11, 0), (0, 5, 0), (0, 2, 0)]
def E_c84 : e2_E := [(2147483648, 2147583648, 0, 0), (2147483652, 2147483668, 1, 0), (2147483648, 2147485248, 2, 0)]
noncomputable def f_c84 : ev_H := (cn639 : e2_Q8)
noncomputable def q_c84_0 : ev_H := (cn639 : e2_Q8)
noncomputable def rs_c84 : e2_Rs := [((11, 2147483648, 2147483649), q_c84_0)]
noncomputable def s_c84 : e2_Sm := (59, as_c84, E_c84, f_c84, rs_c84)
noncomputable def S_c84 : List e2_Sm := [s_c83]
noncomputable def I_c84 : List e2_In := []
set_option maxRecDepth 1000000 in
theorem ck_c84 : e2_run (e2_cal S_c84 I_c84 4000 0) (e2_fin rs_c84) e2x_59 (fun _ => false) (fun _ _ _ _ _ => false) 4000 (e2_seek e2x_59 0) (e2_al 7 as_c84) [] E_c84 f_c84 = true := by decide +kernel
set_option maxRecDepth 1000000 in
theorem co_c84 : e2_okSB E_c84.length as_c84 f_c84 rs_c84 = true := by decide +kernel
theorem cs_c84 (hen : en_ok) (l : Launch) (hh : e2_hand_c l) : e2_smOk l 161 s_c84 := e2_con0 (H := 160) (n := 0) (C := evd_59) (S := S_c84) (I := I_c84) (fuel := 4000) [] hen ei_59 (e2_fa (cs_c83 hen l hh) e2_fz) e2_fz (by decide) co_c84 ex2_59 ck_c84
/-! c85 X3_parseLevel -/
def as_c85 : List ev_V := [(2, 33, 0), (2, 11, 0), (0, 4, 0), (0, 2, 0)]
def E_c85 : e2_E := [(2147483648, 2147583648, 0, 0), (2147483652, 2147483668, 1, 0), (2147483648, 2147485248, 2, 0)]
noncomputable def f_c85 : ev_H := (cn639 : e2_Q8)
noncomputable def q_c85_0 : ev_H := (cn639 : e2_Q8)
noncomputable def rs_c85 : e2_Rs := [((11, 2147483648, 2147483649), q_c85_0)]
noncomputable def s_c85 : e2_Sm := (59, as_c85, E_c85, f_c85, rs_c85)
noncomputable def S_c85 : List e2_Sm := [s_c38, s_c84]
noncomputable def I_c85 : List e2_In := [(19, 2, e2x_19), (20, 2, e2x_20), (60, 1, e2x_60)]
set_option maxRecDepth 1000000 in
theorem co_c85 : e2_okSB E_c85.length as_c85 f_c85 rs_c85 = true := by decide +kernel
def al_c85_0 : List ev_V := [(2, 33, 0), (2, 11, 0), (0, 4, 0), (0, 2, 0), (0, 30, 0), (1, 3, 4294967296), (9, 0, 0)]
def E_c85_0 : e2_E := [(2147483648, 2147583648, 0, 0), (2147483652, 2147483668, 1, 0), (2147483648, 2147485248, 2, 0), (2147483648, 2147483678, 3, 0)]
noncomputable def h_c85_0 : ev_H := (cn639 : e2_Q8)
noncomputable def cl_c85_e : List (Nat × e2_S) := [(66, e2_cutL (al_c85_0.set 5 (11, 2147483648, 2147483678)) 3 (E_c85_0.take 3) h_c85_0)]
set_option maxRecDepth 1000000 in
theorem ck_c85_e : e2_run (e2_cal S_c85 I_c85 4000 2) (e2_fin rs_c85) e2x_59 (e2_bpL cl_c85_e) (e2_cutA cl_c85_e) 4000 (e2_seek e2x_59 0) (e2_al 7 as_c85) [] E_c85 f_c85 = true := by decide +kernel
noncomputable def cl_c85_0 : List (Nat × e2_S) := [(66, e2_cutL (al_c85_0.set 5 (13, 11, 2147483678)) 3 (E_c85_0.take 3) h_c85_0)]
set_option maxRecDepth 1000000 in
theorem ck_c85_0 : e2_runM (e2_cal S_c85 I_c85 4000 2) (e2_fin rs_c85) e2x_59 (e2_bpL cl_c85_0) (e2_cutA cl_c85_0) 4000 (e2_seek e2x_59 66) al_c85_0 [] E_c85_0 h_c85_0 = true := by decide +kernel
set_option maxRecDepth 1000000 in
theorem ci_c85_0 : e2_idl 3 (al_c85_0.set 5 (9, 0, 0)) = true := by decide +kernel
set_option maxRecDepth 1000000 in
theorem cj_c85_0 : e2_idh 3 8 h_c85_0 = true := by decide +kernel
theorem cs_c85 (hen : en_ok) (l : Launch) (hh : e2_hand_c l) : e2_smOk l 164 s_c85 := by
  refine e2_conG (H := 161) (n := 2) (C := evd_59) (S := S_c85) (I := I_c85) (fuel := 4000) hen ei_59 (e2_fa ((cs_c38 hen l hh).mono (by decide)) (e2_fa (cs_c84 hen l hh) e2_fz)) (e2_fa ein_19 (e2_fa ein_20 (e2_fa ein_60 e2_fz))) (by decide) co_c85 fun M d _ hC hcall p e R s m args below meth c Q D cA A ads r0 ha hl0 => ?_
  have L_0 : e2_gdM M p l e R s m args below meth c Q D cA A ads r0 66 al_c85_0 [] E_c85_0 h_c85_0 := by
    refine e2_indL (u := 3) (j := 5) (lo := 2147483648) (hi := 2147483678) (b := 3) (dd := 0) hl0 (by decide) rfl rfl (Or.inr ⟨rfl, rfl⟩) rfl ci_c85_0 cj_c85_0 ?_
    intro r_0 k_0 hk_0 hp_0 hs_0 hn_0
    have hl_0 : r_0.length ≤ 4 := hs_0.len rfl
    have ha_0 := ha.ext hp_0
    exact e2_fromM hen ha_0 hcall (e2_cutA_ok (e2_fa (fun al st E h hc => hn_0 al st E h hc) e2_fz)) (hC []) (X := e2x_59) ex2_59 66 ck_c85_0
  have EN_0 := e2_entL (u := 3) (j := 5) (lo := 2147483648) (hi := 2147483678) hl0 rfl rfl rfl ci_c85_0 cj_c85_0 L_0
  exact e2_from hen ha hcall (e2_cutA_ok (e2_fa (fun al st E h hc => EN_0 al st E h hc) e2_fz)) (hC []) (X := e2x_59) ex2_59 0 ck_c85_e
/-! c86 X3_parseLevel -/
def as_c86 : List ev_V := [(2, 33, 0), (2, 11, 0), (0, 3, 0), (0, 2, 0)]
def E_c86 : e2_E := [(2147483648, 2147583648, 0, 0), (2147483652, 2147483668, 1, 0), (2147483648, 2147485248, 2, 0)]
noncomputable def f_c86 : ev_H := (cn639 : e2_Q8)
noncomputable def q_c86_0 : ev_H := (cn639 : e2_Q8)
noncomputable def rs_c86 : e2_Rs := [((11, 2147483648, 2147483649), q_c86_0)]
noncomputable def s_c86 : e2_Sm := (59, as_c86, E_c86, f_c86, rs_c86)
noncomputable def S_c86 : List e2_Sm := [s_c38, s_c85]
noncomputable def I_c86 : List e2_In := [(19, 2, e2x_19), (20, 2, e2x_20), (60, 1, e2x_60)]
set_option maxRecDepth 1000000 in
theorem co_c86 : e2_okSB E_c86.length as_c86 f_c86 rs_c86 = true := by decide +kernel
def al_c86_0 : List ev_V := [(2, 33, 0), (2, 11, 0), (0, 3, 0), (0, 2, 0), (0, 30, 0), (1, 3, 4294967296), (9, 0, 0)]
def E_c86_0 : e2_E := [(2147483648, 2147583648, 0, 0), (2147483652, 2147483668, 1, 0), (2147483648, 2147485248, 2, 0), (2147483648, 2147483678, 3, 0)]
noncomputable def h_c86_0 : ev_H := (cn639 : e2_Q8)
noncomputable def cl_c86_e : List (Nat × e2_S) := [(66, e2_cutL (al_c86_0.set 5 (11, 2147483648, 2147483678)) 3 (E_c86_0.take 3) h_c86_0)]
set_option maxRecDepth 1000000 in
theorem ck_c86_e : e2_run (e2_cal S_c86 I_c86 4000 2) (e2_fin rs_c86) e2x_59 (e2_bpL cl_c86_e) (e2_cutA cl_c86_e) 4000 (e2_seek e2x_59 0) (e2_al 7 as_c86) [] E_c86 f_c86 = true := by decide +kernel
noncomputable def cl_c86_0 : List (Nat × e2_S) := [(66, e2_cutL (al_c86_0.set 5 (13, 11, 2147483678)) 3 (E_c86_0.take 3) h_c86_0)]
set_option maxRecDepth 1000000 in
theorem ck_c86_0 : e2_runM (e2_cal S_c86 I_c86 4000 2) (e2_fin rs_c86) e2x_59 (e2_bpL cl_c86_0) (e2_cutA cl_c86_0) 4000 (e2_seek e2x_59 66) al_c86_0 [] E_c86_0 h_c86_0 = true := by decide +kernel
set_option maxRecDepth 1000000 in
theorem ci_c86_0 : e2_idl 3 (al_c86_0.set 5 (9, 0, 0)) = true := by decide +kernel
set_option maxRecDepth 1000000 in
theorem cj_c86_0 : e2_idh 3 8 h_c86_0 = true := by decide +kernel
theorem cs_c86 (hen : en_ok) (l : Launch) (hh : e2_hand_c l) : e2_smOk l 167 s_c86 := by
  refine e2_conG (H := 164) (n := 2) (C := evd_59) (S := S_c86) (I := I_c86) (fuel := 4000) hen ei_59 (e2_fa ((cs_c38 hen l hh).mono (by decide)) (e2_fa (cs_c85 hen l hh) e2_fz)) (e2_fa ein_19 (e2_fa ein_20 (e2_fa ein_60 e2_fz))) (by decide) co_c86 fun M d _ hC hcall p e R s m args below meth c Q D cA A ads r0 ha hl0 => ?_
  have L_0 : e2_gdM M p l e R s m args below meth c Q D cA A ads r0 66 al_c86_0 [] E_c86_0 h_c86_0 := by
    refine e2_indL (u := 3) (j := 5) (lo := 2147483648) (hi := 2147483678) (b := 3) (dd := 0) hl0 (by decide) rfl rfl (Or.inr ⟨rfl, rfl⟩) rfl ci_c86_0 cj_c86_0 ?_
    intro r_0 k_0 hk_0 hp_0 hs_0 hn_0
    have hl_0 : r_0.length ≤ 4 := hs_0.len rfl
    have ha_0 := ha.ext hp_0
    exact e2_fromM hen ha_0 hcall (e2_cutA_ok (e2_fa (fun al st E h hc => hn_0 al st E h hc) e2_fz)) (hC []) (X := e2x_59) ex2_59 66 ck_c86_0
  have EN_0 := e2_entL (u := 3) (j := 5) (lo := 2147483648) (hi := 2147483678) hl0 rfl rfl rfl ci_c86_0 cj_c86_0 L_0
  exact e2_from hen ha hcall (e2_cutA_ok (e2_fa (fun al st E h hc => EN_0 al st E h hc) e2_fz)) (hC []) (X := e2x_59) ex2_59 0 ck_c86_e
/-! c87 X3_parseNot -/
def as_c87 : List ev_V := [(2, 33, 0), (2, 11, 0), (0, 2, 0)]
def E_c87 : e2_E := [(2147483648, 2147583648, 0, 0), (2147483652, 2147483668, 1, 0), (2147483648, 2147485248, 2, 0)]
noncomputable def f_c87 : ev_H := (cn639 : e2_Q8)
noncomputable def q_c87_0 : ev_H := (cn639 : e2_Q8)
noncomputable def rs_c87 : e2_Rs := [((11, 2147483648, 2147483649), q_c87_0)]
noncomputable def s_c87 : e2_Sm := (61, as_c87, E_c87, f_c87, rs_c87)
noncomputable def S_c87 : List e2_Sm := [s_c38, s_c80]
noncomputable def I_c87 : List e2_In := [(19, 2, e2x_19), (20, 2, e2x_20)]
set_option maxRecDepth 1000000 in
theorem ck_c87 : e2_run (e2_cal S_c87 I_c87 4000 2) (e2_fin rs_c87) e2x_61 (fun _ => false) (fun _ _ _ _ _ => false) 4000 (e2_seek e2x_61 0) (e2_al 3 as_c87) [] E_c87 f_c87 = true := by decide +kernel
set_option maxRecDepth 1000000 in
theorem co_c87 : e2_okSB E_c87.length as_c87 f_c87 rs_c87 = true := by decide +kernel
theorem cs_c87 (hen : en_ok) (l : Launch) (hh : e2_hand_c l) : e2_smOk l 154 s_c87 := e2_con0 (H := 151) (n := 2) (C := evd_61) (S := S_c87) (I := I_c87) (fuel := 4000) [] hen ei_61 (e2_fa ((cs_c38 hen l hh).mono (by decide)) (e2_fa (cs_c80 hen l hh) e2_fz)) (e2_fa ein_19 (e2_fa ein_20 e2_fz)) (by decide) co_c87 ex2_61 ck_c87
/-! c88 X3_parseLevel -/
def as_c88 : List ev_V := [(2, 33, 0), (2, 11, 0), (0, 2, 0), (0, 2, 0)]
def E_c88 : e2_E := [(2147483648, 2147583648, 0, 0), (2147483652, 2147483668, 1, 0), (2147483648, 2147485248, 2, 0)]
noncomputable def f_c88 : ev_H := (cn639 : e2_Q8)
noncomputable def q_c88_0 : ev_H := (cn639 : e2_Q8)
noncomputable def rs_c88 : e2_Rs := [((11, 2147483648, 2147483649), q_c88_0)]
noncomputable def s_c88 : e2_Sm := (59, as_c88, E_c88, f_c88, rs_c88)
noncomputable def S_c88 : List e2_Sm := [s_c38, s_c86, s_c87]
noncomputable def I_c88 : List e2_In := [(19, 2, e2x_19), (20, 2, e2x_20), (60, 1, e2x_60)]
set_option maxRecDepth 1000000 in
theorem co_c88 : e2_okSB E_c88.length as_c88 f_c88 rs_c88 = true := by decide +kernel
def al_c88_0 : List ev_V := [(2, 33, 0), (2, 11, 0), (0, 2, 0), (0, 2, 0), (0, 1, 0), (1, 3, 4294967296), (9, 0, 0)]
def E_c88_0 : e2_E := [(2147483648, 2147583648, 0, 0), (2147483652, 2147483668, 1, 0), (2147483648, 2147485248, 2, 0), (2147483648, 2147483649, 3, 0)]
noncomputable def h_c88_0 : ev_H := (cn639 : e2_Q8)
noncomputable def cl_c88_e : List (Nat × e2_S) := [(66, e2_cutL (al_c88_0.set 5 (11, 2147483648, 2147483649)) 3 (E_c88_0.take 3) h_c88_0)]
set_option maxRecDepth 1000000 in
theorem ck_c88_e : e2_run (e2_cal S_c88 I_c88 4000 2) (e2_fin rs_c88) e2x_59 (e2_bpL cl_c88_e) (e2_cutA cl_c88_e) 4000 (e2_seek e2x_59 0) (e2_al 7 as_c88) [] E_c88 f_c88 = true := by decide +kernel
noncomputable def cl_c88_0 : List (Nat × e2_S) := [(66, e2_cutL (al_c88_0.set 5 (13, 11, 2147483649)) 3 (E_c88_0.take 3) h_c88_0)]
set_option maxRecDepth 1000000 in
theorem ck_c88_0 : e2_runM (e2_cal S_c88 I_c88 4000 2) (e2_fin rs_c88) e2x_59 (e2_bpL cl_c88_0) (e2_cutA cl_c88_0) 4000 (e2_seek e2x_59 66) al_c88_0 [] E_c88_0 h_c88_0 = true := by decide +kernel
set_option maxRecDepth 1000000 in
theorem ci_c88_0 : e2_idl 3 (al_c88_0.set 5 (9, 0, 0)) = true := by decide +kernel
set_option maxRecDepth 1000000 in
theorem cj_c88_0 : e2_idh 3 8 h_c88_0 = true := by decide +kernel
theorem cs_c88 (hen : en_ok) (l : Launch) (hh : e2_hand_c l) : e2_smOk l 170 s_c88 := by
  refine e2_conG (H := 167) (n := 2) (C := evd_59) (S := S_c88) (I := I_c88) (fuel := 4000) hen ei_59 (e2_fa ((cs_c38 hen l hh).mono (by decide)) (e2_fa (cs_c86 hen l hh) (e2_fa ((cs_c87 hen l hh).mono (by decide)) e2_fz))) (e2_fa ein_19 (e2_fa ein_20 (e2_fa ein_60 e2_fz))) (by decide) co_c88 fun M d _ hC hcall p e R s m args below meth c Q D cA A ads r0 ha hl0 => ?_
  have L_0 : e2_gdM M p l e R s m args below meth c Q D cA A ads r0 66 al_c88_0 [] E_c88_0 h_c88_0 := by
    refine e2_indL (u := 3) (j := 5) (lo := 2147483648) (hi := 2147483649) (b := 3) (dd := 0) hl0 (by decide) rfl rfl (Or.inr ⟨rfl, rfl⟩) rfl ci_c88_0 cj_c88_0 ?_
    intro r_0 k_0 hk_0 hp_0 hs_0 hn_0
    have hl_0 : r_0.length ≤ 4 := hs_0.len rfl
    have ha_0 := ha.ext hp_0
    exact e2_fromM hen ha_0 hcall (e2_cutA_ok (e2_fa (fun al st E h hc => hn_0 al st E h hc) e2_fz)) (hC []) (X := e2x_59) ex2_59 66 ck_c88_0
  have EN_0 := e2_entL (u := 3) (j := 5) (lo := 2147483648) (hi := 2147483649) hl0 rfl rfl rfl ci_c88_0 cj_c88_0 L_0
  exact e2_from hen ha hcall (e2_cutA_ok (e2_fa (fun al st E h hc => EN_0 al st E h hc) e2_fz)) (hC []) (X := e2x_59) ex2_59 0 ck_c88_e
/-! c89 X3_parseLevel -/
def as_c89 : List ev_V := [(2, 33, 0), (2, 11, 0), (0, 1, 0), (0, 2, 0)]
def E_c89 : e2_E := [(2147483648, 2147583648, 0, 0), (2147483652, 2147483668, 1, 0), (2147483648, 2147485248, 2, 0)]
noncomputable def f_c89 : ev_H := (cn639 : e2_Q8)
noncomputable def q_c89_0 : ev_H := (cn639 : e2_Q8)
noncomputable def rs_c89 : e2_Rs := [((11, 2147483648, 2147483649), q_c89_0)]
noncomputable def s_c89 : e2_Sm := (59, as_c89, E_c89, f_c89, rs_c89)
noncomputable def S_c89 : List e2_Sm := [s_c38, s_c88]
noncomputable def I_c89 : List e2_In := [(19, 2, e2x_19), (20, 2, e2x_20), (60, 1, e2x_60)]
set_option maxRecDepth 1000000 in
theorem co_c89 : e2_okSB E_c89.length as_c89 f_c89 rs_c89 = true := by decide +kernel
def al_c89_0 : List ev_V := [(2, 33, 0), (2, 11, 0), (0, 1, 0), (0, 2, 0), (0, 30, 0), (1, 3, 4294967296), (9, 0, 0)]
def E_c89_0 : e2_E := [(2147483648, 2147583648, 0, 0), (2147483652, 2147483668, 1, 0), (2147483648, 2147485248, 2, 0), (2147483648, 2147483678, 3, 0)]
noncomputable def h_c89_0 : ev_H := (cn639 : e2_Q8)
noncomputable def cl_c89_e : List (Nat × e2_S) := [(66, e2_cutL (al_c89_0.set 5 (11, 2147483648, 2147483678)) 3 (E_c89_0.take 3) h_c89_0)]
set_option maxRecDepth 1000000 in
theorem ck_c89_e : e2_run (e2_cal S_c89 I_c89 4000 2) (e2_fin rs_c89) e2x_59 (e2_bpL cl_c89_e) (e2_cutA cl_c89_e) 4000 (e2_seek e2x_59 0) (e2_al 7 as_c89) [] E_c89 f_c89 = true := by decide +kernel
noncomputable def cl_c89_0 : List (Nat × e2_S) := [(66, e2_cutL (al_c89_0.set 5 (13, 11, 2147483678)) 3 (E_c89_0.take 3) h_c89_0)]
set_option maxRecDepth 1000000 in
theorem ck_c89_0 : e2_runM (e2_cal S_c89 I_c89 4000 2) (e2_fin rs_c89) e2x_59 (e2_bpL cl_c89_0) (e2_cutA cl_c89_0) 4000 (e2_seek e2x_59 66) al_c89_0 [] E_c89_0 h_c89_0 = true := by decide +kernel
set_option maxRecDepth 1000000 in
theorem ci_c89_0 : e2_idl 3 (al_c89_0.set 5 (9, 0, 0)) = true := by decide +kernel
set_option maxRecDepth 1000000 in
theorem cj_c89_0 : e2_idh 3 8 h_c89_0 = true := by decide +kernel
theorem cs_c89 (hen : en_ok) (l : Launch) (hh : e2_hand_c l) : e2_smOk l 173 s_c89 := by
  refine e2_conG (H := 170) (n := 2) (C := evd_59) (S := S_c89) (I := I_c89) (fuel := 4000) hen ei_59 (e2_fa ((cs_c38 hen l hh).mono (by decide)) (e2_fa (cs_c88 hen l hh) e2_fz)) (e2_fa ein_19 (e2_fa ein_20 (e2_fa ein_60 e2_fz))) (by decide) co_c89 fun M d _ hC hcall p e R s m args below meth c Q D cA A ads r0 ha hl0 => ?_
  have L_0 : e2_gdM M p l e R s m args below meth c Q D cA A ads r0 66 al_c89_0 [] E_c89_0 h_c89_0 := by
    refine e2_indL (u := 3) (j := 5) (lo := 2147483648) (hi := 2147483678) (b := 3) (dd := 0) hl0 (by decide) rfl rfl (Or.inr ⟨rfl, rfl⟩) rfl ci_c89_0 cj_c89_0 ?_
    intro r_0 k_0 hk_0 hp_0 hs_0 hn_0
    have hl_0 : r_0.length ≤ 4 := hs_0.len rfl
    have ha_0 := ha.ext hp_0
    exact e2_fromM hen ha_0 hcall (e2_cutA_ok (e2_fa (fun al st E h hc => hn_0 al st E h hc) e2_fz)) (hC []) (X := e2x_59) ex2_59 66 ck_c89_0
  have EN_0 := e2_entL (u := 3) (j := 5) (lo := 2147483648) (hi := 2147483678) hl0 rfl rfl rfl ci_c89_0 cj_c89_0 L_0
  exact e2_from hen ha hcall (e2_cutA_ok (e2_fa (fun al st E h hc => EN_0 al st E h hc) e2_fz)) (hC []) (X := e2x_59) ex2_59 0 ck_c89_e
/-! c90 X3_parseLevel -/
def as_c90 : List ev_V := [(2, 33, 0), (2, 11, 0), (0, 0, 0), (0, 2, 0)]
def E_c90 : e2_E := [(2147483648, 2147583648, 0, 0), (2147483652, 2147483668, 1, 0), (2147483648, 2147485248, 2, 0)]
noncomputable def f_c90 : ev_H := (cn639 : e2_Q8)
noncomputable def q_c90_0 : ev_H := (cn639 : e2_Q8)
noncomputable def rs_c90 : e2_Rs := [((11, 2147483648, 2147483649), q_c90_0)]
noncomputable def s_c90 : e2_Sm := (59, as_c90, E_c90, f_c90, rs_c90)
noncomputable def S_c90 : List e2_Sm := [s_c38, s_c89]
noncomputable def I_c90 : List e2_In := [(19, 2, e2x_19), (20, 2, e2x_20), (60, 1, e2x_60)]
set_option maxRecDepth 1000000 in
theorem co_c90 : e2_okSB E_c90.length as_c90 f_c90 rs_c90 = true := by decide +kernel
def al_c90_0 : List ev_V := [(2, 33, 0), (2, 11, 0), (0, 0, 0), (0, 2, 0), (0, 30, 0), (1, 3, 4294967296), (9, 0, 0)]
def E_c90_0 : e2_E := [(2147483648, 2147583648, 0, 0), (2147483652, 2147483668, 1, 0), (2147483648, 2147485248, 2, 0), (2147483648, 2147483678, 3, 0)]
noncomputable def h_c90_0 : ev_H := (cn639 : e2_Q8)
noncomputable def cl_c90_e : List (Nat × e2_S) := [(66, e2_cutL (al_c90_0.set 5 (11, 2147483648, 2147483678)) 3 (E_c90_0.take 3) h_c90_0)]
set_option maxRecDepth 1000000 in
theorem ck_c90_e : e2_run (e2_cal S_c90 I_c90 4000 2) (e2_fin rs_c90) e2x_59 (e2_bpL cl_c90_e) (e2_cutA cl_c90_e) 4000 (e2_seek e2x_59 0) (e2_al 7 as_c90) [] E_c90 f_c90 = true := by decide +kernel
noncomputable def cl_c90_0 : List (Nat × e2_S) := [(66, e2_cutL (al_c90_0.set 5 (13, 11, 2147483678)) 3 (E_c90_0.take 3) h_c90_0)]
set_option maxRecDepth 1000000 in
theorem ck_c90_0 : e2_runM (e2_cal S_c90 I_c90 4000 2) (e2_fin rs_c90) e2x_59 (e2_bpL cl_c90_0) (e2_cutA cl_c90_0) 4000 (e2_seek e2x_59 66) al_c90_0 [] E_c90_0 h_c90_0 = true := by decide +kernel
set_option maxRecDepth 1000000 in
theorem ci_c90_0 : e2_idl 3 (al_c90_0.set 5 (9, 0, 0)) = true := by decide +kernel
set_option maxRecDepth 1000000 in
theorem cj_c90_0 : e2_idh 3 8 h_c90_0 = true := by decide +kernel
theorem cs_c90 (hen : en_ok) (l : Launch) (hh : e2_hand_c l) : e2_smOk l 176 s_c90 := by
  refine e2_conG (H := 173) (n := 2) (C := evd_59) (S := S_c90) (I := I_c90) (fuel := 4000) hen ei_59 (e2_fa ((cs_c38 hen l hh).mono (by decide)) (e2_fa (cs_c89 hen l hh) e2_fz)) (e2_fa ein_19 (e2_fa ein_20 (e2_fa ein_60 e2_fz))) (by decide) co_c90 fun M d _ hC hcall p e R s m args below meth c Q D cA A ads r0 ha hl0 => ?_
  have L_0 : e2_gdM M p l e R s m args below meth c Q D cA A ads r0 66 al_c90_0 [] E_c90_0 h_c90_0 := by
    refine e2_indL (u := 3) (j := 5) (lo := 2147483648) (hi := 2147483678) (b := 3) (dd := 0) hl0 (by decide) rfl rfl (Or.inr ⟨rfl, rfl⟩) rfl ci_c90_0 cj_c90_0 ?_
    intro r_0 k_0 hk_0 hp_0 hs_0 hn_0
    have hl_0 : r_0.length ≤ 4 := hs_0.len rfl
    have ha_0 := ha.ext hp_0
    exact e2_fromM hen ha_0 hcall (e2_cutA_ok (e2_fa (fun al st E h hc => hn_0 al st E h hc) e2_fz)) (hC []) (X := e2x_59) ex2_59 66 ck_c90_0
  have EN_0 := e2_entL (u := 3) (j := 5) (lo := 2147483648) (hi := 2147483678) hl0 rfl rfl rfl ci_c90_0 cj_c90_0 L_0
  exact e2_from hen ha hcall (e2_cutA_ok (e2_fa (fun al st E h hc => EN_0 al st E h hc) e2_fz)) (hC []) (X := e2x_59) ex2_59 0 ck_c90_e
/-! c91 X3_parseUnit -/
def as_c91 : List ev_V := [(2, 33, 0), (2, 11, 0), (0, 1, 0)]
def E_c91 : e2_E := [(2147483648, 2147583648, 0, 0), (2147483652, 2147483668, 1, 0), (2147483648, 2147485248, 2, 0)]
noncomputable def f_c91 : ev_H := (cn639 : e2_Q8)
noncomputable def q_c91_0 : ev_H := (cn639 : e2_Q8)
noncomputable def rs_c91 : e2_Rs := [((11, 2147483648, 2147483649), q_c91_0)]
noncomputable def s_c91 : e2_Sm := (62, as_c91, E_c91, f_c91, rs_c91)
noncomputable def S_c91 : List e2_Sm := [s_c38, s_c39, s_c90]
noncomputable def I_c91 : List e2_In := [(18, 2, e2x_18), (19, 2, e2x_19), (20, 2, e2x_20), (43, 2, e2x_43), (44, 3, e2x_44)]
set_option maxRecDepth 1000000 in
theorem ck_c91 : e2_run (e2_cal S_c91 I_c91 4000 2) (e2_fin rs_c91) e2x_62 (fun _ => false) (fun _ _ _ _ _ => false) 4000 (e2_seek e2x_62 0) (e2_al 7 as_c91) [] E_c91 f_c91 = true := by decide +kernel
set_option maxRecDepth 1000000 in
theorem co_c91 : e2_okSB E_c91.length as_c91 f_c91 rs_c91 = true := by decide +kernel
theorem cs_c91 (hen : en_ok) (l : Launch) (hh : e2_hand_c l) : e2_smOk l 179 s_c91 := e2_con0 (H := 176) (n := 2) (C := evd_62) (S := S_c91) (I := I_c91) (fuel := 4000) [] hen ei_62 (e2_fa ((cs_c38 hen l hh).mono (by decide)) (e2_fa ((cs_c39 hen l hh).mono (by decide)) (e2_fa (cs_c90 hen l hh) e2_fz))) (e2_fa ein_18 (e2_fa ein_19 (e2_fa ein_20 (e2_fa ein_43 (e2_fa ein_44 e2_fz))))) (by decide) co_c91 ex2_62 ck_c91
/-! c92 X3_parseLevel -/
def as_c92 : List ev_V := [(2, 33, 0), (2, 11, 0), (0, 5, 0), (0, 1, 0)]
def E_c92 : e2_E := [(2147483648, 2147583648, 0, 0), (2147483652, 2147483668, 1, 0), (2147483648, 2147485248, 2, 0)]
noncomputable def f_c92 : ev_H := (cn639 : e2_Q8)
noncomputable def q_c92_0 : ev_H := (cn639 : e2_Q8)
noncomputable def rs_c92 : e2_Rs := [((11, 2147483648, 2147483649), q_c92_0)]
noncomputable def s_c92 : e2_Sm := (59, as_c92, E_c92, f_c92, rs_c92)
noncomputable def S_c92 : List e2_Sm := [s_c91]
noncomputable def I_c92 : List e2_In := []
set_option maxRecDepth 1000000 in
theorem ck_c92 : e2_run (e2_cal S_c92 I_c92 4000 0) (e2_fin rs_c92) e2x_59 (fun _ => false) (fun _ _ _ _ _ => false) 4000 (e2_seek e2x_59 0) (e2_al 7 as_c92) [] E_c92 f_c92 = true := by decide +kernel
set_option maxRecDepth 1000000 in
theorem co_c92 : e2_okSB E_c92.length as_c92 f_c92 rs_c92 = true := by decide +kernel
theorem cs_c92 (hen : en_ok) (l : Launch) (hh : e2_hand_c l) : e2_smOk l 180 s_c92 := e2_con0 (H := 179) (n := 0) (C := evd_59) (S := S_c92) (I := I_c92) (fuel := 4000) [] hen ei_59 (e2_fa (cs_c91 hen l hh) e2_fz) e2_fz (by decide) co_c92 ex2_59 ck_c92
/-! c93 X3_parseLevel -/
def as_c93 : List ev_V := [(2, 33, 0), (2, 11, 0), (0, 4, 0), (0, 1, 0)]
def E_c93 : e2_E := [(2147483648, 2147583648, 0, 0), (2147483652, 2147483668, 1, 0), (2147483648, 2147485248, 2, 0)]
noncomputable def f_c93 : ev_H := (cn639 : e2_Q8)
noncomputable def q_c93_0 : ev_H := (cn639 : e2_Q8)
noncomputable def rs_c93 : e2_Rs := [((11, 2147483648, 2147483649), q_c93_0)]
noncomputable def s_c93 : e2_Sm := (59, as_c93, E_c93, f_c93, rs_c93)
noncomputable def S_c93 : List e2_Sm := [s_c38, s_c92]
noncomputable def I_c93 : List e2_In := [(19, 2, e2x_19), (20, 2, e2x_20), (60, 1, e2x_60)]
set_option maxRecDepth 1000000 in
theorem co_c93 : e2_okSB E_c93.length as_c93 f_c93 rs_c93 = true := by decide +kernel
def al_c93_0 : List ev_V := [(2, 33, 0), (2, 11, 0), (0, 4, 0), (0, 1, 0), (0, 30, 0), (1, 3, 4294967296), (9, 0, 0)]
def E_c93_0 : e2_E := [(2147483648, 2147583648, 0, 0), (2147483652, 2147483668, 1, 0), (2147483648, 2147485248, 2, 0), (2147483648, 2147483678, 3, 0)]
noncomputable def h_c93_0 : ev_H := (cn639 : e2_Q8)
noncomputable def cl_c93_e : List (Nat × e2_S) := [(66, e2_cutL (al_c93_0.set 5 (11, 2147483648, 2147483678)) 3 (E_c93_0.take 3) h_c93_0)]
set_option maxRecDepth 1000000 in
theorem ck_c93_e : e2_run (e2_cal S_c93 I_c93 4000 2) (e2_fin rs_c93) e2x_59 (e2_bpL cl_c93_e) (e2_cutA cl_c93_e) 4000 (e2_seek e2x_59 0) (e2_al 7 as_c93) [] E_c93 f_c93 = true := by decide +kernel
noncomputable def cl_c93_0 : List (Nat × e2_S) := [(66, e2_cutL (al_c93_0.set 5 (13, 11, 2147483678)) 3 (E_c93_0.take 3) h_c93_0)]
set_option maxRecDepth 1000000 in
theorem ck_c93_0 : e2_runM (e2_cal S_c93 I_c93 4000 2) (e2_fin rs_c93) e2x_59 (e2_bpL cl_c93_0) (e2_cutA cl_c93_0) 4000 (e2_seek e2x_59 66) al_c93_0 [] E_c93_0 h_c93_0 = true := by decide +kernel
set_option maxRecDepth 1000000 in
theorem ci_c93_0 : e2_idl 3 (al_c93_0.set 5 (9, 0, 0)) = true := by decide +kernel
set_option maxRecDepth 1000000 in
theorem cj_c93_0 : e2_idh 3 8 h_c93_0 = true := by decide +kernel
theorem cs_c93 (hen : en_ok) (l : Launch) (hh : e2_hand_c l) : e2_smOk l 183 s_c93 := by
  refine e2_conG (H := 180) (n := 2) (C := evd_59) (S := S_c93) (I := I_c93) (fuel := 4000) hen ei_59 (e2_fa ((cs_c38 hen l hh).mono (by decide)) (e2_fa (cs_c92 hen l hh) e2_fz)) (e2_fa ein_19 (e2_fa ein_20 (e2_fa ein_60 e2_fz))) (by decide) co_c93 fun M d _ hC hcall p e R s m args below meth c Q D cA A ads r0 ha hl0 => ?_
  have L_0 : e2_gdM M p l e R s m args below meth c Q D cA A ads r0 66 al_c93_0 [] E_c93_0 h_c93_0 := by
    refine e2_indL (u := 3) (j := 5) (lo := 2147483648) (hi := 2147483678) (b := 3) (dd := 0) hl0 (by decide) rfl rfl (Or.inr ⟨rfl, rfl⟩) rfl ci_c93_0 cj_c93_0 ?_
    intro r_0 k_0 hk_0 hp_0 hs_0 hn_0
    have hl_0 : r_0.length ≤ 4 := hs_0.len rfl
    have ha_0 := ha.ext hp_0
    exact e2_fromM hen ha_0 hcall (e2_cutA_ok (e2_fa (fun al st E h hc => hn_0 al st E h hc) e2_fz)) (hC []) (X := e2x_59) ex2_59 66 ck_c93_0
  have EN_0 := e2_entL (u := 3) (j := 5) (lo := 2147483648) (hi := 2147483678) hl0 rfl rfl rfl ci_c93_0 cj_c93_0 L_0
  exact e2_from hen ha hcall (e2_cutA_ok (e2_fa (fun al st E h hc => EN_0 al st E h hc) e2_fz)) (hC []) (X := e2x_59) ex2_59 0 ck_c93_e
/-! c94 X3_parseLevel -/
def as_c94 : List ev_V := [(2, 33, 0), (2, 11, 0), (0, 3, 0), (0, 1, 0)]
def E_c94 : e2_E := [(2147483648, 2147583648, 0, 0), (2147483652, 2147483668, 1, 0), (2147483648, 2147485248, 2, 0)]
noncomputable def f_c94 : ev_H := (cn639 : e2_Q8)
noncomputable def q_c94_0 : ev_H := (cn639 : e2_Q8)
noncomputable def rs_c94 : e2_Rs := [((11, 2147483648, 2147483649), q_c94_0)]
noncomputable def s_c94 : e2_Sm := (59, as_c94, E_c94, f_c94, rs_c94)
noncomputable def S_c94 : List e2_Sm := [s_c38, s_c93]
noncomputable def I_c94 : List e2_In := [(19, 2, e2x_19), (20, 2, e2x_20), (60, 1, e2x_60)]
set_option maxRecDepth 1000000 in
theorem co_c94 : e2_okSB E_c94.length as_c94 f_c94 rs_c94 = true := by decide +kernel
def al_c94_0 : List ev_V := [(2, 33, 0), (2, 11, 0), (0, 3, 0), (0, 1, 0), (0, 30, 0), (1, 3, 4294967296), (9, 0, 0)]
def E_c94_0 : e2_E := [(2147483648, 2147583648, 0, 0), (2147483652, 2147483668, 1, 0), (2147483648, 2147485248, 2, 0), (2147483648, 2147483678, 3, 0)]
noncomputable def h_c94_0 : ev_H := (cn639 : e2_Q8)
noncomputable def cl_c94_e : List (Nat × e2_S) := [(66, e2_cutL (al_c94_0.set 5 (11, 2147483648, 2147483678)) 3 (E_c94_0.take 3) h_c94_0)]
set_option maxRecDepth 1000000 in
theorem ck_c94_e : e2_run (e2_cal S_c94 I_c94 4000 2) (e2_fin rs_c94) e2x_59 (e2_bpL cl_c94_e) (e2_cutA cl_c94_e) 4000 (e2_seek e2x_59 0) (e2_al 7 as_c94) [] E_c94 f_c94 = true := by decide +kernel
noncomputable def cl_c94_0 : List (Nat × e2_S) := [(66, e2_cutL (al_c94_0.set 5 (13, 11, 2147483678)) 3 (E_c94_0.take 3) h_c94_0)]
set_option maxRecDepth 1000000 in
theorem ck_c94_0 : e2_runM (e2_cal S_c94 I_c94 4000 2) (e2_fin rs_c94) e2x_59 (e2_bpL cl_c94_0) (e2_cutA cl_c94_0) 4000 (e2_seek e2x_59 66) al_c94_0 [] E_c94_0 h_c94_0 = true := by decide +kernel
set_option maxRecDepth 1000000 in
theorem ci_c94_0 : e2_idl 3 (al_c94_0.set 5 (9, 0, 0)) = true := by decide +kernel
set_option maxRecDepth 1000000 in
theorem cj_c94_0 : e2_idh 3 8 h_c94_0 = true := by decide +kernel
theorem cs_c94 (hen : en_ok) (l : Launch) (hh : e2_hand_c l) : e2_smOk l 186 s_c94 := by
  refine e2_conG (H := 183) (n := 2) (C := evd_59) (S := S_c94) (I := I_c94) (fuel := 4000) hen ei_59 (e2_fa ((cs_c38 hen l hh).mono (by decide)) (e2_fa (cs_c93 hen l hh) e2_fz)) (e2_fa ein_19 (e2_fa ein_20 (e2_fa ein_60 e2_fz))) (by decide) co_c94 fun M d _ hC hcall p e R s m args below meth c Q D cA A ads r0 ha hl0 => ?_
  have L_0 : e2_gdM M p l e R s m args below meth c Q D cA A ads r0 66 al_c94_0 [] E_c94_0 h_c94_0 := by
    refine e2_indL (u := 3) (j := 5) (lo := 2147483648) (hi := 2147483678) (b := 3) (dd := 0) hl0 (by decide) rfl rfl (Or.inr ⟨rfl, rfl⟩) rfl ci_c94_0 cj_c94_0 ?_
    intro r_0 k_0 hk_0 hp_0 hs_0 hn_0
    have hl_0 : r_0.length ≤ 4 := hs_0.len rfl
    have ha_0 := ha.ext hp_0
    exact e2_fromM hen ha_0 hcall (e2_cutA_ok (e2_fa (fun al st E h hc => hn_0 al st E h hc) e2_fz)) (hC []) (X := e2x_59) ex2_59 66 ck_c94_0
  have EN_0 := e2_entL (u := 3) (j := 5) (lo := 2147483648) (hi := 2147483678) hl0 rfl rfl rfl ci_c94_0 cj_c94_0 L_0
  exact e2_from hen ha hcall (e2_cutA_ok (e2_fa (fun al st E h hc => EN_0 al st E h hc) e2_fz)) (hC []) (X := e2x_59) ex2_59 0 ck_c94_e
/-! c95 X3_parseNot -/
def as_c95 : List ev_V := [(2, 33, 0), (2, 11, 0), (0, 1, 0)]
def E_c95 : e2_E := [(2147483648, 2147583648, 0, 0), (2147483652, 2147483668, 1, 0), (2147483648, 2147485248, 2, 0)]
noncomputable def f_c95 : ev_H := (cn639 : e2_Q8)
noncomputable def q_c95_0 : ev_H := (cn639 : e2_Q8)
noncomputable def rs_c95 : e2_Rs := [((11, 2147483648, 2147483649), q_c95_0)]
noncomputable def s_c95 : e2_Sm := (61, as_c95, E_c95, f_c95, rs_c95)
noncomputable def S_c95 : List e2_Sm := [s_c38, s_c88]
noncomputable def I_c95 : List e2_In := [(19, 2, e2x_19), (20, 2, e2x_20)]
set_option maxRecDepth 1000000 in
theorem ck_c95 : e2_run (e2_cal S_c95 I_c95 4000 2) (e2_fin rs_c95) e2x_61 (fun _ => false) (fun _ _ _ _ _ => false) 4000 (e2_seek e2x_61 0) (e2_al 3 as_c95) [] E_c95 f_c95 = true := by decide +kernel
set_option maxRecDepth 1000000 in
theorem co_c95 : e2_okSB E_c95.length as_c95 f_c95 rs_c95 = true := by decide +kernel
theorem cs_c95 (hen : en_ok) (l : Launch) (hh : e2_hand_c l) : e2_smOk l 173 s_c95 := e2_con0 (H := 170) (n := 2) (C := evd_61) (S := S_c95) (I := I_c95) (fuel := 4000) [] hen ei_61 (e2_fa ((cs_c38 hen l hh).mono (by decide)) (e2_fa (cs_c88 hen l hh) e2_fz)) (e2_fa ein_19 (e2_fa ein_20 e2_fz)) (by decide) co_c95 ex2_61 ck_c95
/-! c96 X3_parseLevel -/
def as_c96 : List ev_V := [(2, 33, 0), (2, 11, 0), (0, 2, 0), (0, 1, 0)]
def E_c96 : e2_E := [(2147483648, 2147583648, 0, 0), (2147483652, 2147483668, 1, 0), (2147483648, 2147485248, 2, 0)]
noncomputable def f_c96 : ev_H := (cn639 : e2_Q8)
noncomputable def q_c96_0 : ev_H := (cn639 : e2_Q8)
noncomputable def rs_c96 : e2_Rs := [((11, 2147483648, 2147483649), q_c96_0)]
noncomputable def s_c96 : e2_Sm := (59, as_c96, E_c96, f_c96, rs_c96)
noncomputable def S_c96 : List e2_Sm := [s_c38, s_c94, s_c95]
noncomputable def I_c96 : List e2_In := [(19, 2, e2x_19), (20, 2, e2x_20), (60, 1, e2x_60)]
set_option maxRecDepth 1000000 in
theorem co_c96 : e2_okSB E_c96.length as_c96 f_c96 rs_c96 = true := by decide +kernel
def al_c96_0 : List ev_V := [(2, 33, 0), (2, 11, 0), (0, 2, 0), (0, 1, 0), (0, 1, 0), (1, 3, 4294967296), (9, 0, 0)]
def E_c96_0 : e2_E := [(2147483648, 2147583648, 0, 0), (2147483652, 2147483668, 1, 0), (2147483648, 2147485248, 2, 0), (2147483648, 2147483649, 3, 0)]
noncomputable def h_c96_0 : ev_H := (cn639 : e2_Q8)
noncomputable def cl_c96_e : List (Nat × e2_S) := [(66, e2_cutL (al_c96_0.set 5 (11, 2147483648, 2147483649)) 3 (E_c96_0.take 3) h_c96_0)]
set_option maxRecDepth 1000000 in
theorem ck_c96_e : e2_run (e2_cal S_c96 I_c96 4000 2) (e2_fin rs_c96) e2x_59 (e2_bpL cl_c96_e) (e2_cutA cl_c96_e) 4000 (e2_seek e2x_59 0) (e2_al 7 as_c96) [] E_c96 f_c96 = true := by decide +kernel
noncomputable def cl_c96_0 : List (Nat × e2_S) := [(66, e2_cutL (al_c96_0.set 5 (13, 11, 2147483649)) 3 (E_c96_0.take 3) h_c96_0)]
set_option maxRecDepth 1000000 in
theorem ck_c96_0 : e2_runM (e2_cal S_c96 I_c96 4000 2) (e2_fin rs_c96) e2x_59 (e2_bpL cl_c96_0) (e2_cutA cl_c96_0) 4000 (e2_seek e2x_59 66) al_c96_0 [] E_c96_0 h_c96_0 = true := by decide +kernel
set_option maxRecDepth 1000000 in
theorem ci_c96_0 : e2_idl 3 (al_c96_0.set 5 (9, 0, 0)) = true := by decide +kernel
set_option maxRecDepth 1000000 in
theorem cj_c96_0 : e2_idh 3 8 h_c96_0 = true := by decide +kernel
theorem cs_c96 (hen : en_ok) (l : Launch) (hh : e2_hand_c l) : e2_smOk l 189 s_c96 := by
  refine e2_conG (H := 186) (n := 2) (C := evd_59) (S := S_c96) (I := I_c96) (fuel := 4000) hen ei_59 (e2_fa ((cs_c38 hen l hh).mono (by decide)) (e2_fa (cs_c94 hen l hh) (e2_fa ((cs_c95 hen l hh).mono (by decide)) e2_fz))) (e2_fa ein_19 (e2_fa ein_20 (e2_fa ein_60 e2_fz))) (by decide) co_c96 fun M d _ hC hcall p e R s m args below meth c Q D cA A ads r0 ha hl0 => ?_
  have L_0 : e2_gdM M p l e R s m args below meth c Q D cA A ads r0 66 al_c96_0 [] E_c96_0 h_c96_0 := by
    refine e2_indL (u := 3) (j := 5) (lo := 2147483648) (hi := 2147483649) (b := 3) (dd := 0) hl0 (by decide) rfl rfl (Or.inr ⟨rfl, rfl⟩) rfl ci_c96_0 cj_c96_0 ?_
    intro r_0 k_0 hk_0 hp_0 hs_0 hn_0
    have hl_0 : r_0.length ≤ 4 := hs_0.len rfl
    have ha_0 := ha.ext hp_0
    exact e2_fromM hen ha_0 hcall (e2_cutA_ok (e2_fa (fun al st E h hc => hn_0 al st E h hc) e2_fz)) (hC []) (X := e2x_59) ex2_59 66 ck_c96_0
  have EN_0 := e2_entL (u := 3) (j := 5) (lo := 2147483648) (hi := 2147483649) hl0 rfl rfl rfl ci_c96_0 cj_c96_0 L_0
  exact e2_from hen ha hcall (e2_cutA_ok (e2_fa (fun al st E h hc => EN_0 al st E h hc) e2_fz)) (hC []) (X := e2x_59) ex2_59 0 ck_c96_e
/-! c97 X3_parseLevel -/
def as_c97 : List ev_V := [(2, 33, 0), (2, 11, 0), (0, 1, 0), (0, 1, 0)]
def E_c97 : e2_E := [(2147483648, 2147583648, 0, 0), (2147483652, 2147483668, 1, 0), (2147483648, 2147485248, 2, 0)]
noncomputable def f_c97 : ev_H := (cn639 : e2_Q8)
noncomputable def q_c97_0 : ev_H := (cn639 : e2_Q8)
noncomputable def rs_c97 : e2_Rs := [((11, 2147483648, 2147483649), q_c97_0)]
noncomputable def s_c97 : e2_Sm := (59, as_c97, E_c97, f_c97, rs_c97)
noncomputable def S_c97 : List e2_Sm := [s_c38, s_c96]
noncomputable def I_c97 : List e2_In := [(19, 2, e2x_19), (20, 2, e2x_20), (60, 1, e2x_60)]
set_option maxRecDepth 1000000 in
theorem co_c97 : e2_okSB E_c97.length as_c97 f_c97 rs_c97 = true := by decide +kernel
def al_c97_0 : List ev_V := [(2, 33, 0), (2, 11, 0), (0, 1, 0), (0, 1, 0), (0, 30, 0), (1, 3, 4294967296), (9, 0, 0)]
def E_c97_0 : e2_E := [(2147483648, 2147583648, 0, 0), (2147483652, 2147483668, 1, 0), (2147483648, 2147485248, 2, 0), (2147483648, 2147483678, 3, 0)]
noncomputable def h_c97_0 : ev_H := (cn639 : e2_Q8)
noncomputable def cl_c97_e : List (Nat × e2_S) := [(66, e2_cutL (al_c97_0.set 5 (11, 2147483648, 2147483678)) 3 (E_c97_0.take 3) h_c97_0)]
set_option maxRecDepth 1000000 in
theorem ck_c97_e : e2_run (e2_cal S_c97 I_c97 4000 2) (e2_fin rs_c97) e2x_59 (e2_bpL cl_c97_e) (e2_cutA cl_c97_e) 4000 (e2_seek e2x_59 0) (e2_al 7 as_c97) [] E_c97 f_c97 = true := by decide +kernel
noncomputable def cl_c97_0 : List (Nat × e2_S) := [(66, e2_cutL (al_c97_0.set 5 (13, 11, 2147483678)) 3 (E_c97_0.take 3) h_c97_0)]
set_option maxRecDepth 1000000 in
theorem ck_c97_0 : e2_runM (e2_cal S_c97 I_c97 4000 2) (e2_fin rs_c97) e2x_59 (e2_bpL cl_c97_0) (e2_cutA cl_c97_0) 4000 (e2_seek e2x_59 66) al_c97_0 [] E_c97_0 h_c97_0 = true := by decide +kernel
set_option maxRecDepth 1000000 in
theorem ci_c97_0 : e2_idl 3 (al_c97_0.set 5 (9, 0, 0)) = true := by decide +kernel
set_option maxRecDepth 1000000 in
theorem cj_c97_0 : e2_idh 3 8 h_c97_0 = true := by decide +kernel
theorem cs_c97 (hen : en_ok) (l : Launch) (hh : e2_hand_c l) : e2_smOk l 192 s_c97 := by
  refine e2_conG (H := 189) (n := 2) (C := evd_59) (S := S_c97) (I := I_c97) (fuel := 4000) hen ei_59 (e2_fa ((cs_c38 hen l hh).mono (by decide)) (e2_fa (cs_c96 hen l hh) e2_fz)) (e2_fa ein_19 (e2_fa ein_20 (e2_fa ein_60 e2_fz))) (by decide) co_c97 fun M d _ hC hcall p e R s m args below meth c Q D cA A ads r0 ha hl0 => ?_
  have L_0 : e2_gdM M p l e R s m args below meth c Q D cA A ads r0 66 al_c97_0 [] E_c97_0 h_c97_0 := by
    refine e2_indL (u := 3) (j := 5) (lo := 2147483648) (hi := 2147483678) (b := 3) (dd := 0) hl0 (by decide) rfl rfl (Or.inr ⟨rfl, rfl⟩) rfl ci_c97_0 cj_c97_0 ?_
    intro r_0 k_0 hk_0 hp_0 hs_0 hn_0
    have hl_0 : r_0.length ≤ 4 := hs_0.len rfl
    have ha_0 := ha.ext hp_0
    exact e2_fromM hen ha_0 hcall (e2_cutA_ok (e2_fa (fun al st E h hc => hn_0 al st E h hc) e2_fz)) (hC []) (X := e2x_59) ex2_59 66 ck_c97_0
  have EN_0 := e2_entL (u := 3) (j := 5) (lo := 2147483648) (hi := 2147483678) hl0 rfl rfl rfl ci_c97_0 cj_c97_0 L_0
  exact e2_from hen ha hcall (e2_cutA_ok (e2_fa (fun al st E h hc => EN_0 al st E h hc) e2_fz)) (hC []) (X := e2x_59) ex2_59 0 ck_c97_e
/-! c98 X3_parseLevel -/
def as_c98 : List ev_V := [(2, 33, 0), (2, 11, 0), (0, 0, 0), (0, 1, 0)]
def E_c98 : e2_E := [(2147483648, 2147583648, 0, 0), (2147483652, 2147483668, 1, 0), (2147483648, 2147485248, 2, 0)]
noncomputable def f_c98 : ev_H := (cn639 : e2_Q8)
noncomputable def q_c98_0 : ev_H := (cn639 : e2_Q8)
noncomputable def rs_c98 : e2_Rs := [((11, 2147483648, 2147483649), q_c98_0)]
noncomputable def s_c98 : e2_Sm := (59, as_c98, E_c98, f_c98, rs_c98)
noncomputable def S_c98 : List e2_Sm := [s_c38, s_c97]
noncomputable def I_c98 : List e2_In := [(19, 2, e2x_19), (20, 2, e2x_20), (60, 1, e2x_60)]
set_option maxRecDepth 1000000 in
theorem co_c98 : e2_okSB E_c98.length as_c98 f_c98 rs_c98 = true := by decide +kernel
def al_c98_0 : List ev_V := [(2, 33, 0), (2, 11, 0), (0, 0, 0), (0, 1, 0), (0, 30, 0), (1, 3, 4294967296), (9, 0, 0)]
def E_c98_0 : e2_E := [(2147483648, 2147583648, 0, 0), (2147483652, 2147483668, 1, 0), (2147483648, 2147485248, 2, 0), (2147483648, 2147483678, 3, 0)]
noncomputable def h_c98_0 : ev_H := (cn639 : e2_Q8)
noncomputable def cl_c98_e : List (Nat × e2_S) := [(66, e2_cutL (al_c98_0.set 5 (11, 2147483648, 2147483678)) 3 (E_c98_0.take 3) h_c98_0)]
set_option maxRecDepth 1000000 in
theorem ck_c98_e : e2_run (e2_cal S_c98 I_c98 4000 2) (e2_fin rs_c98) e2x_59 (e2_bpL cl_c98_e) (e2_cutA cl_c98_e) 4000 (e2_seek e2x_59 0) (e2_al 7 as_c98) [] E_c98 f_c98 = true := by decide +kernel
noncomputable def cl_c98_0 : List (Nat × e2_S) := [(66, e2_cutL (al_c98_0.set 5 (13, 11, 2147483678)) 3 (E_c98_0.take 3) h_c98_0)]
set_option maxRecDepth 1000000 in
theorem ck_c98_0 : e2_runM (e2_cal S_c98 I_c98 4000 2) (e2_fin rs_c98) e2x_59 (e2_bpL cl_c98_0) (e2_cutA cl_c98_0) 4000 (e2_seek e2x_59 66) al_c98_0 [] E_c98_0 h_c98_0 = true := by decide +kernel
set_option maxRecDepth 1000000 in
theorem ci_c98_0 : e2_idl 3 (al_c98_0.set 5 (9, 0, 0)) = true := by decide +kernel
set_option maxRecDepth 1000000 in
theorem cj_c98_0 : e2_idh 3 8 h_c98_0 = true := by decide +kernel
theorem cs_c98 (hen : en_ok) (l : Launch) (hh : e2_hand_c l) : e2_smOk l 195 s_c98 := by
  refine e2_conG (H := 192) (n := 2) (C := evd_59) (S := S_c98) (I := I_c98) (fuel := 4000) hen ei_59 (e2_fa ((cs_c38 hen l hh).mono (by decide)) (e2_fa (cs_c97 hen l hh) e2_fz)) (e2_fa ein_19 (e2_fa ein_20 (e2_fa ein_60 e2_fz))) (by decide) co_c98 fun M d _ hC hcall p e R s m args below meth c Q D cA A ads r0 ha hl0 => ?_
  have L_0 : e2_gdM M p l e R s m args below meth c Q D cA A ads r0 66 al_c98_0 [] E_c98_0 h_c98_0 := by
    refine e2_indL (u := 3) (j := 5) (lo := 2147483648) (hi := 2147483678) (b := 3) (dd := 0) hl0 (by decide) rfl rfl (Or.inr ⟨rfl, rfl⟩) rfl ci_c98_0 cj_c98_0 ?_
    intro r_0 k_0 hk_0 hp_0 hs_0 hn_0
    have hl_0 : r_0.length ≤ 4 := hs_0.len rfl
    have ha_0 := ha.ext hp_0
    exact e2_fromM hen ha_0 hcall (e2_cutA_ok (e2_fa (fun al st E h hc => hn_0 al st E h hc) e2_fz)) (hC []) (X := e2x_59) ex2_59 66 ck_c98_0
  have EN_0 := e2_entL (u := 3) (j := 5) (lo := 2147483648) (hi := 2147483678) hl0 rfl rfl rfl ci_c98_0 cj_c98_0 L_0
  exact e2_from hen ha hcall (e2_cutA_ok (e2_fa (fun al st E h hc => EN_0 al st E h hc) e2_fz)) (hC []) (X := e2x_59) ex2_59 0 ck_c98_e
/-! c99 X3_parseUnit -/
def as_c99 : List ev_V := [(2, 33, 0), (2, 11, 0), (0, 0, 0)]
def E_c99 : e2_E := [(2147483648, 2147583648, 0, 0), (2147483652, 2147483668, 1, 0), (2147483648, 2147485248, 2, 0)]
noncomputable def f_c99 : ev_H := (cn639 : e2_Q8)
noncomputable def q_c99_0 : ev_H := (cn639 : e2_Q8)
noncomputable def rs_c99 : e2_Rs := [((11, 2147483648, 2147483649), q_c99_0)]
noncomputable def s_c99 : e2_Sm := (62, as_c99, E_c99, f_c99, rs_c99)
noncomputable def S_c99 : List e2_Sm := [s_c38, s_c39, s_c98]
noncomputable def I_c99 : List e2_In := [(18, 2, e2x_18), (19, 2, e2x_19), (20, 2, e2x_20), (43, 2, e2x_43), (44, 3, e2x_44)]
set_option maxRecDepth 1000000 in
theorem ck_c99 : e2_run (e2_cal S_c99 I_c99 4000 2) (e2_fin rs_c99) e2x_62 (fun _ => false) (fun _ _ _ _ _ => false) 4000 (e2_seek e2x_62 0) (e2_al 7 as_c99) [] E_c99 f_c99 = true := by decide +kernel
set_option maxRecDepth 1000000 in
theorem co_c99 : e2_okSB E_c99.length as_c99 f_c99 rs_c99 = true := by decide +kernel
theorem cs_c99 (hen : en_ok) (l : Launch) (hh : e2_hand_c l) : e2_smOk l 198 s_c99 := e2_con0 (H := 195) (n := 2) (C := evd_62) (S := S_c99) (I := I_c99) (fuel := 4000) [] hen ei_62 (e2_fa ((cs_c38 hen l hh).mono (by decide)) (e2_fa ((cs_c39 hen l hh).mono (by decide)) (e2_fa (cs_c98 hen l hh) e2_fz))) (e2_fa ein_18 (e2_fa ein_19 (e2_fa ein_20 (e2_fa ein_43 (e2_fa ein_44 e2_fz))))) (by decide) co_c99 ex2_62 ck_c99
/-! c100 X3_parseLevel -/
def as_c100 : List ev_V := [(2, 33, 0), (2, 11, 0), (0, 5, 0), (0, 0, 0)]
def E_c100 : e2_E := [(2147483648, 2147583648, 0, 0), (2147483652, 2147483668, 1, 0), (2147483648, 2147485248, 2, 0)]
noncomputable def f_c100 : ev_H := (cn639 : e2_Q8)
noncomputable def q_c100_0 : ev_H := (cn639 : e2_Q8)
noncomputable def rs_c100 : e2_Rs := [((11, 2147483648, 2147483649), q_c100_0)]
noncomputable def s_c100 : e2_Sm := (59, as_c100, E_c100, f_c100, rs_c100)
noncomputable def S_c100 : List e2_Sm := [s_c99]
noncomputable def I_c100 : List e2_In := []
set_option maxRecDepth 1000000 in
theorem ck_c100 : e2_run (e2_cal S_c100 I_c100 4000 0) (e2_fin rs_c100) e2x_59 (fun _ => false) (fun _ _ _ _ _ => false) 4000 (e2_seek e2x_59 0) (e2_al 7 as_c100) [] E_c100 f_c100 = true := by decide +kernel
set_option maxRecDepth 1000000 in
theorem co_c100 : e2_okSB E_c100.length as_c100 f_c100 rs_c100 = true := by decide +kernel
theorem cs_c100 (hen : en_ok) (l : Launch) (hh : e2_hand_c l) : e2_smOk l 199 s_c100 := e2_con0 (H := 198) (n := 0) (C := evd_59) (S := S_c100) (I := I_c100) (fuel := 4000) [] hen ei_59 (e2_fa (cs_c99 hen l hh) e2_fz) e2_fz (by decide) co_c100 ex2_59 ck_c100
/-! c101 X3_parseLevel -/
def as_c101 : List ev_V := [(2, 33, 0), (2, 11, 0), (0, 4, 0), (0, 0, 0)]
def E_c101 : e2_E := [(2147483648, 2147583648, 0, 0), (2147483652, 2147483668, 1, 0), (2147483648, 2147485248, 2, 0)]
noncomputable def f_c101 : ev_H := (cn639 : e2_Q8)
noncomputable def q_c101_0 : ev_H := (cn639 : e2_Q8)
noncomputable def rs_c101 : e2_Rs := [((11, 2147483648, 2147483649), q_c101_0)]
noncomputable def s_c101 : e2_Sm := (59, as_c101, E_c101, f_c101, rs_c101)
noncomputable def S_c101 : List e2_Sm := [s_c38, s_c100]
noncomputable def I_c101 : List e2_In := [(19, 2, e2x_19), (20, 2, e2x_20), (60, 1, e2x_60)]
set_option maxRecDepth 1000000 in
theorem co_c101 : e2_okSB E_c101.length as_c101 f_c101 rs_c101 = true := by decide +kernel
def al_c101_0 : List ev_V := [(2, 33, 0), (2, 11, 0), (0, 4, 0), (0, 0, 0), (0, 30, 0), (1, 3, 4294967296), (9, 0, 0)]
def E_c101_0 : e2_E := [(2147483648, 2147583648, 0, 0), (2147483652, 2147483668, 1, 0), (2147483648, 2147485248, 2, 0), (2147483648, 2147483678, 3, 0)]
noncomputable def h_c101_0 : ev_H := (cn639 : e2_Q8)
noncomputable def cl_c101_e : List (Nat × e2_S) := [(66, e2_cutL (al_c101_0.set 5 (11, 2147483648, 2147483678)) 3 (E_c101_0.take 3) h_c101_0)]
set_option maxRecDepth 1000000 in
theorem ck_c101_e : e2_run (e2_cal S_c101 I_c101 4000 2) (e2_fin rs_c101) e2x_59 (e2_bpL cl_c101_e) (e2_cutA cl_c101_e) 4000 (e2_seek e2x_59 0) (e2_al 7 as_c101) [] E_c101 f_c101 = true := by decide +kernel
noncomputable def cl_c101_0 : List (Nat × e2_S) := [(66, e2_cutL (al_c101_0.set 5 (13, 11, 2147483678)) 3 (E_c101_0.take 3) h_c101_0)]
set_option maxRecDepth 1000000 in
theorem ck_c101_0 : e2_runM (e2_cal S_c101 I_c101 4000 2) (e2_fin rs_c101) e2x_59 (e2_bpL cl_c101_0) (e2_cutA cl_c101_0) 4000 (e2_seek e2x_59 66) al_c101_0 [] E_c101_0 h_c101_0 = true := by decide +kernel
set_option maxRecDepth 1000000 in
theorem ci_c101_0 : e2_idl 3 (al_c101_0.set 5 (9, 0, 0)) = true := by decide +kernel
set_option maxRecDepth 1000000 in
theorem cj_c101_0 : e2_idh 3 8 h_c101_0 = true := by decide +kernel
theorem cs_c101 (hen : en_ok) (l : Launch) (hh : e2_hand_c l) : e2_smOk l 202 s_c101 := by
  refine e2_conG (H := 199) (n := 2) (C := evd_59) (S := S_c101) (I := I_c101) (fuel := 4000) hen ei_59 (e2_fa ((cs_c38 hen l hh).mono (by decide)) (e2_fa (cs_c100 hen l hh) e2_fz)) (e2_fa ein_19 (e2_fa ein_20 (e2_fa ein_60 e2_fz))) (by decide) co_c101 fun M d _ hC hcall p e R s m args below meth c Q D cA A ads r0 ha hl0 => ?_
  have L_0 : e2_gdM M p l e R s m args below meth c Q D cA A ads r0 66 al_c101_0 [] E_c101_0 h_c101_0 := by
    refine e2_indL (u := 3) (j := 5) (lo := 2147483648) (hi := 2147483678) (b := 3) (dd := 0) hl0 (by decide) rfl rfl (Or.inr ⟨rfl, rfl⟩) rfl ci_c101_0 cj_c101_0 ?_
    intro r_0 k_0 hk_0 hp_0 hs_0 hn_0
    have hl_0 : r_0.length ≤ 4 := hs_0.len rfl
    have ha_0 := ha.ext hp_0
    exact e2_fromM hen ha_0 hcall (e2_cutA_ok (e2_fa (fun al st E h hc => hn_0 al st E h hc) e2_fz)) (hC []) (X := e2x_59) ex2_59 66 ck_c101_0
  have EN_0 := e2_entL (u := 3) (j := 5) (lo := 2147483648) (hi := 2147483678) hl0 rfl rfl rfl ci_c101_0 cj_c101_0 L_0
  exact e2_from hen ha hcall (e2_cutA_ok (e2_fa (fun al st E h hc => EN_0 al st E h hc) e2_fz)) (hC []) (X := e2x_59) ex2_59 0 ck_c101_e
/-! c102 X3_parseLevel -/
def as_c102 : List ev_V := [(2, 33, 0), (2, 11, 0), (0, 3, 0), (0, 0, 0)]
def E_c102 : e2_E := [(2147483648, 2147583648, 0, 0), (2147483652, 2147483668, 1, 0), (2147483648, 2147485248, 2, 0)]
noncomputable def f_c102 : ev_H := (cn639 : e2_Q8)
noncomputable def q_c102_0 : ev_H := (cn639 : e2_Q8)
noncomputable def rs_c102 : e2_Rs := [((11, 2147483648, 2147483649), q_c102_0)]
noncomputable def s_c102 : e2_Sm := (59, as_c102, E_c102, f_c102, rs_c102)
noncomputable def S_c102 : List e2_Sm := [s_c38, s_c101]
noncomputable def I_c102 : List e2_In := [(19, 2, e2x_19), (20, 2, e2x_20), (60, 1, e2x_60)]
set_option maxRecDepth 1000000 in
theorem co_c102 : e2_okSB E_c102.length as_c102 f_c102 rs_c102 = true := by decide +kernel
def al_c102_0 : List ev_V := [(2, 33, 0), (2, 11, 0), (0, 3, 0), (0, 0, 0), (0, 30, 0), (1, 3, 4294967296), (9, 0, 0)]
def E_c102_0 : e2_E := [(2147483648, 2147583648, 0, 0), (2147483652, 2147483668, 1, 0), (2147483648, 2147485248, 2, 0), (2147483648, 2147483678, 3, 0)]
noncomputable def h_c102_0 : ev_H := (cn639 : e2_Q8)
noncomputable def cl_c102_e : List (Nat × e2_S) := [(66, e2_cutL (al_c102_0.set 5 (11, 2147483648, 2147483678)) 3 (E_c102_0.take 3) h_c102_0)]
set_option maxRecDepth 1000000 in
theorem ck_c102_e : e2_run (e2_cal S_c102 I_c102 4000 2) (e2_fin rs_c102) e2x_59 (e2_bpL cl_c102_e) (e2_cutA cl_c102_e) 4000 (e2_seek e2x_59 0) (e2_al 7 as_c102) [] E_c102 f_c102 = true := by decide +kernel
noncomputable def cl_c102_0 : List (Nat × e2_S) := [(66, e2_cutL (al_c102_0.set 5 (13, 11, 2147483678)) 3 (E_c102_0.take 3) h_c102_0)]
set_option maxRecDepth 1000000 in
theorem ck_c102_0 : e2_runM (e2_cal S_c102 I_c102 4000 2) (e2_fin rs_c102) e2x_59 (e2_bpL cl_c102_0) (e2_cutA cl_c102_0) 4000 (e2_seek e2x_59 66) al_c102_0 [] E_c102_0 h_c102_0 = true := by decide +kernel
set_option maxRecDepth 1000000 in
theorem ci_c102_0 : e2_idl 3 (al_c102_0.set 5 (9, 0, 0)) = true := by decide +kernel
set_option maxRecDepth 1000000 in
theorem cj_c102_0 : e2_idh 3 8 h_c102_0 = true := by decide +kernel
theorem cs_c102 (hen : en_ok) (l : Launch) (hh : e2_hand_c l) : e2_smOk l 205 s_c102 := by
  refine e2_conG (H := 202) (n := 2) (C := evd_59) (S := S_c102) (I := I_c102) (fuel := 4000) hen ei_59 (e2_fa ((cs_c38 hen l hh).mono (by decide)) (e2_fa (cs_c101 hen l hh) e2_fz)) (e2_fa ein_19 (e2_fa ein_20 (e2_fa ein_60 e2_fz))) (by decide) co_c102 fun M d _ hC hcall p e R s m args below meth c Q D cA A ads r0 ha hl0 => ?_
  have L_0 : e2_gdM M p l e R s m args below meth c Q D cA A ads r0 66 al_c102_0 [] E_c102_0 h_c102_0 := by
    refine e2_indL (u := 3) (j := 5) (lo := 2147483648) (hi := 2147483678) (b := 3) (dd := 0) hl0 (by decide) rfl rfl (Or.inr ⟨rfl, rfl⟩) rfl ci_c102_0 cj_c102_0 ?_
    intro r_0 k_0 hk_0 hp_0 hs_0 hn_0
    have hl_0 : r_0.length ≤ 4 := hs_0.len rfl
    have ha_0 := ha.ext hp_0
    exact e2_fromM hen ha_0 hcall (e2_cutA_ok (e2_fa (fun al st E h hc => hn_0 al st E h hc) e2_fz)) (hC []) (X := e2x_59) ex2_59 66 ck_c102_0
  have EN_0 := e2_entL (u := 3) (j := 5) (lo := 2147483648) (hi := 2147483678) hl0 rfl rfl rfl ci_c102_0 cj_c102_0 L_0
  exact e2_from hen ha hcall (e2_cutA_ok (e2_fa (fun al st E h hc => EN_0 al st E h hc) e2_fz)) (hC []) (X := e2x_59) ex2_59 0 ck_c102_e
/-! c103 X3_parseNot -/
def as_c103 : List ev_V := [(2, 33, 0), (2, 11, 0), (0, 0, 0)]
def E_c103 : e2_E := [(2147483648, 2147583648, 0, 0), (2147483652, 2147483668, 1, 0), (2147483648, 2147485248, 2, 0)]
noncomputable def f_c103 : ev_H := (cn639 : e2_Q8)
noncomputable def q_c103_0 : ev_H := (cn639 : e2_Q8)
noncomputable def rs_c103 : e2_Rs := [((11, 2147483648, 2147483649), q_c103_0)]
noncomputable def s_c103 : e2_Sm := (61, as_c103, E_c103, f_c103, rs_c103)
noncomputable def S_c103 : List e2_Sm := [s_c38, s_c96]
noncomputable def I_c103 : List e2_In := [(19, 2, e2x_19), (20, 2, e2x_20)]
set_option maxRecDepth 1000000 in
theorem ck_c103 : e2_run (e2_cal S_c103 I_c103 4000 2) (e2_fin rs_c103) e2x_61 (fun _ => false) (fun _ _ _ _ _ => false) 4000 (e2_seek e2x_61 0) (e2_al 3 as_c103) [] E_c103 f_c103 = true := by decide +kernel
set_option maxRecDepth 1000000 in
theorem co_c103 : e2_okSB E_c103.length as_c103 f_c103 rs_c103 = true := by decide +kernel
theorem cs_c103 (hen : en_ok) (l : Launch) (hh : e2_hand_c l) : e2_smOk l 192 s_c103 := e2_con0 (H := 189) (n := 2) (C := evd_61) (S := S_c103) (I := I_c103) (fuel := 4000) [] hen ei_61 (e2_fa ((cs_c38 hen l hh).mono (by decide)) (e2_fa (cs_c96 hen l hh) e2_fz)) (e2_fa ein_19 (e2_fa ein_20 e2_fz)) (by decide) co_c103 ex2_61 ck_c103
/-! c104 X3_parseLevel -/
def as_c104 : List ev_V := [(2, 33, 0), (2, 11, 0), (0, 2, 0), (0, 0, 0)]
def E_c104 : e2_E := [(2147483648, 2147583648, 0, 0), (2147483652, 2147483668, 1, 0), (2147483648, 2147485248, 2, 0)]
noncomputable def f_c104 : ev_H := (cn639 : e2_Q8)
noncomputable def q_c104_0 : ev_H := (cn639 : e2_Q8)
noncomputable def rs_c104 : e2_Rs := [((11, 2147483648, 2147483649), q_c104_0)]
noncomputable def s_c104 : e2_Sm := (59, as_c104, E_c104, f_c104, rs_c104)
noncomputable def S_c104 : List e2_Sm := [s_c38, s_c102, s_c103]
noncomputable def I_c104 : List e2_In := [(19, 2, e2x_19), (20, 2, e2x_20), (60, 1, e2x_60)]
set_option maxRecDepth 1000000 in
theorem co_c104 : e2_okSB E_c104.length as_c104 f_c104 rs_c104 = true := by decide +kernel
def al_c104_0 : List ev_V := [(2, 33, 0), (2, 11, 0), (0, 2, 0), (0, 0, 0), (0, 1, 0), (1, 3, 4294967296), (9, 0, 0)]
def E_c104_0 : e2_E := [(2147483648, 2147583648, 0, 0), (2147483652, 2147483668, 1, 0), (2147483648, 2147485248, 2, 0), (2147483648, 2147483649, 3, 0)]
noncomputable def h_c104_0 : ev_H := (cn639 : e2_Q8)
noncomputable def cl_c104_e : List (Nat × e2_S) := [(66, e2_cutL (al_c104_0.set 5 (11, 2147483648, 2147483649)) 3 (E_c104_0.take 3) h_c104_0)]
set_option maxRecDepth 1000000 in
theorem ck_c104_e : e2_run (e2_cal S_c104 I_c104 4000 2) (e2_fin rs_c104) e2x_59 (e2_bpL cl_c104_e) (e2_cutA cl_c104_e) 4000 (e2_seek e2x_59 0) (e2_al 7 as_c104) [] E_c104 f_c104 = true := by decide +kernel
noncomputable def cl_c104_0 : List (Nat × e2_S) := [(66, e2_cutL (al_c104_0.set 5 (13, 11, 2147483649)) 3 (E_c104_0.take 3) h_c104_0)]
set_option maxRecDepth 1000000 in
theorem ck_c104_0 : e2_runM (e2_cal S_c104 I_c104 4000 2) (e2_fin rs_c104) e2x_59 (e2_bpL cl_c104_0) (e2_cutA cl_c104_0) 4000 (e2_seek e2x_59 66) al_c104_0 [] E_c104_0 h_c104_0 = true := by decide +kernel
set_option maxRecDepth 1000000 in
theorem ci_c104_0 : e2_idl 3 (al_c104_0.set 5 (9, 0, 0)) = true := by decide +kernel
set_option maxRecDepth 1000000 in
theorem cj_c104_0 : e2_idh 3 8 h_c104_0 = true := by decide +kernel
theorem cs_c104 (hen : en_ok) (l : Launch) (hh : e2_hand_c l) : e2_smOk l 208 s_c104 := by
  refine e2_conG (H := 205) (n := 2) (C := evd_59) (S := S_c104) (I := I_c104) (fuel := 4000) hen ei_59 (e2_fa ((cs_c38 hen l hh).mono (by decide)) (e2_fa (cs_c102 hen l hh) (e2_fa ((cs_c103 hen l hh).mono (by decide)) e2_fz))) (e2_fa ein_19 (e2_fa ein_20 (e2_fa ein_60 e2_fz))) (by decide) co_c104 fun M d _ hC hcall p e R s m args below meth c Q D cA A ads r0 ha hl0 => ?_
  have L_0 : e2_gdM M p l e R s m args below meth c Q D cA A ads r0 66 al_c104_0 [] E_c104_0 h_c104_0 := by
    refine e2_indL (u := 3) (j := 5) (lo := 2147483648) (hi := 2147483649) (b := 3) (dd := 0) hl0 (by decide) rfl rfl (Or.inr ⟨rfl, rfl⟩) rfl ci_c104_0 cj_c104_0 ?_
    intro r_0 k_0 hk_0 hp_0 hs_0 hn_0
    have hl_0 : r_0.length ≤ 4 := hs_0.len rfl
    have ha_0 := ha.ext hp_0
    exact e2_fromM hen ha_0 hcall (e2_cutA_ok (e2_fa (fun al st E h hc => hn_0 al st E h hc) e2_fz)) (hC []) (X := e2x_59) ex2_59 66 ck_c104_0
  have EN_0 := e2_entL (u := 3) (j := 5) (lo := 2147483648) (hi := 2147483649) hl0 rfl rfl rfl ci_c104_0 cj_c104_0 L_0
  exact e2_from hen ha hcall (e2_cutA_ok (e2_fa (fun al st E h hc => EN_0 al st E h hc) e2_fz)) (hC []) (X := e2x_59) ex2_59 0 ck_c104_e
/-! c105 X3_parseLevel -/
def as_c105 : List ev_V := [(2, 33, 0), (2, 11, 0), (0, 1, 0), (0, 0, 0)]
def E_c105 : e2_E := [(2147483648, 2147583648, 0, 0), (2147483652, 2147483668, 1, 0), (2147483648, 2147485248, 2, 0)]
noncomputable def f_c105 : ev_H := (cn639 : e2_Q8)
noncomputable def q_c105_0 : ev_H := (cn639 : e2_Q8)
noncomputable def rs_c105 : e2_Rs := [((11, 2147483648, 2147483649), q_c105_0)]
noncomputable def s_c105 : e2_Sm := (59, as_c105, E_c105, f_c105, rs_c105)
noncomputable def S_c105 : List e2_Sm := [s_c38, s_c104]
noncomputable def I_c105 : List e2_In := [(19, 2, e2x_19), (20, 2, e2x_20), (60, 1, e2x_60)]
set_option maxRecDepth 1000000 in
theorem co_c105 : e2_okSB E_c105.length as_c105 f_c105 rs_c105 = true := by decide +kernel
def al_c105_0 : List ev_V := [(2, 33, 0), (2, 11, 0), (0, 1, 0), (0, 0, 0), (0, 30, 0), (1, 3, 4294967296), (9, 0, 0)]
def E_c105_0 : e2_E := [(2147483648, 2147583648, 0, 0), (2147483652, 2147483668, 1, 0), (2147483648, 2147485248, 2, 0), (2147483648, 2147483678, 3, 0)]
noncomputable def h_c105_0 : ev_H := (cn639 : e2_Q8)
noncomputable def cl_c105_e : List (Nat × e2_S) := [(66, e2_cutL (al_c105_0.set 5 (11, 2147483648, 2147483678)) 3 (E_c105_0.take 3) h_c105_0)]
set_option maxRecDepth 1000000 in
theorem ck_c105_e : e2_run (e2_cal S_c105 I_c105 4000 2) (e2_fin rs_c105) e2x_59 (e2_bpL cl_c105_e) (e2_cutA cl_c105_e) 4000 (e2_seek e2x_59 0) (e2_al 7 as_c105) [] E_c105 f_c105 = true := by decide +kernel
noncomputable def cl_c105_0 : List (Nat × e2_S) := [(66, e2_cutL (al_c105_0.set 5 (13, 11, 2147483678)) 3 (E_c105_0.take 3) h_c105_0)]
set_option maxRecDepth 1000000 in
theorem ck_c105_0 : e2_runM (e2_cal S_c105 I_c105 4000 2) (e2_fin rs_c105) e2x_59 (e2_bpL cl_c105_0) (e2_cutA cl_c105_0) 4000 (e2_seek e2x_59 66) al_c105_0 [] E_c105_0 h_c105_0 = true := by decide +kernel
set_option maxRecDepth 1000000 in
theorem ci_c105_0 : e2_idl 3 (al_c105_0.set 5 (9, 0, 0)) = true := by decide +kernel
set_option maxRecDepth 1000000 in
theorem cj_c105_0 : e2_idh 3 8 h_c105_0 = true := by decide +kernel
theorem cs_c105 (hen : en_ok) (l : Launch) (hh : e2_hand_c l) : e2_smOk l 211 s_c105 := by
  refine e2_conG (H := 208) (n := 2) (C := evd_59) (S := S_c105) (I := I_c105) (fuel := 4000) hen ei_59 (e2_fa ((cs_c38 hen l hh).mono (by decide)) (e2_fa (cs_c104 hen l hh) e2_fz)) (e2_fa ein_19 (e2_fa ein_20 (e2_fa ein_60 e2_fz))) (by decide) co_c105 fun M d _ hC hcall p e R s m args below meth c Q D cA A ads r0 ha hl0 => ?_
  have L_0 : e2_gdM M p l e R s m args below meth c Q D cA A ads r0 66 al_c105_0 [] E_c105_0 h_c105_0 := by
    refine e2_indL (u := 3) (j := 5) (lo := 2147483648) (hi := 2147483678) (b := 3) (dd := 0) hl0 (by decide) rfl rfl (Or.inr ⟨rfl, rfl⟩) rfl ci_c105_0 cj_c105_0 ?_
    intro r_0 k_0 hk_0 hp_0 hs_0 hn_0
    have hl_0 : r_0.length ≤ 4 := hs_0.len rfl
    have ha_0 := ha.ext hp_0
    exact e2_fromM hen ha_0 hcall (e2_cutA_ok (e2_fa (fun al st E h hc => hn_0 al st E h hc) e2_fz)) (hC []) (X := e2x_59) ex2_59 66 ck_c105_0
  have EN_0 := e2_entL (u := 3) (j := 5) (lo := 2147483648) (hi := 2147483678) hl0 rfl rfl rfl ci_c105_0 cj_c105_0 L_0
  exact e2_from hen ha hcall (e2_cutA_ok (e2_fa (fun al st E h hc => EN_0 al st E h hc) e2_fz)) (hC []) (X := e2x_59) ex2_59 0 ck_c105_e
/-! c106 X3_parseLevel -/
def as_c106 : List ev_V := [(2, 33, 0), (2, 11, 0), (0, 0, 0), (0, 0, 0)]
def E_c106 : e2_E := [(2147483648, 2147583648, 0, 0), (2147483652, 2147483668, 1, 0), (2147483648, 2147485248, 2, 0)]
noncomputable def f_c106 : ev_H := (cn639 : e2_Q8)
noncomputable def q_c106_0 : ev_H := (cn639 : e2_Q8)
noncomputable def rs_c106 : e2_Rs := [((11, 2147483648, 2147483649), q_c106_0)]
noncomputable def s_c106 : e2_Sm := (59, as_c106, E_c106, f_c106, rs_c106)
noncomputable def S_c106 : List e2_Sm := [s_c38, s_c105]
noncomputable def I_c106 : List e2_In := [(19, 2, e2x_19), (20, 2, e2x_20), (60, 1, e2x_60)]
set_option maxRecDepth 1000000 in
theorem co_c106 : e2_okSB E_c106.length as_c106 f_c106 rs_c106 = true := by decide +kernel
def al_c106_0 : List ev_V := [(2, 33, 0), (2, 11, 0), (0, 0, 0), (0, 0, 0), (0, 30, 0), (1, 3, 4294967296), (9, 0, 0)]
def E_c106_0 : e2_E := [(2147483648, 2147583648, 0, 0), (2147483652, 2147483668, 1, 0), (2147483648, 2147485248, 2, 0), (2147483648, 2147483678, 3, 0)]
noncomputable def h_c106_0 : ev_H := (cn639 : e2_Q8)
noncomputable def cl_c106_e : List (Nat × e2_S) := [(66, e2_cutL (al_c106_0.set 5 (11, 2147483648, 2147483678)) 3 (E_c106_0.take 3) h_c106_0)]
set_option maxRecDepth 1000000 in
theorem ck_c106_e : e2_run (e2_cal S_c106 I_c106 4000 2) (e2_fin rs_c106) e2x_59 (e2_bpL cl_c106_e) (e2_cutA cl_c106_e) 4000 (e2_seek e2x_59 0) (e2_al 7 as_c106) [] E_c106 f_c106 = true := by decide +kernel
noncomputable def cl_c106_0 : List (Nat × e2_S) := [(66, e2_cutL (al_c106_0.set 5 (13, 11, 2147483678)) 3 (E_c106_0.take 3) h_c106_0)]
set_option maxRecDepth 1000000 in
theorem ck_c106_0 : e2_runM (e2_cal S_c106 I_c106 4000 2) (e2_fin rs_c106) e2x_59 (e2_bpL cl_c106_0) (e2_cutA cl_c106_0) 4000 (e2_seek e2x_59 66) al_c106_0 [] E_c106_0 h_c106_0 = true := by decide +kernel
set_option maxRecDepth 1000000 in
theorem ci_c106_0 : e2_idl 3 (al_c106_0.set 5 (9, 0, 0)) = true := by decide +kernel
set_option maxRecDepth 1000000 in
theorem cj_c106_0 : e2_idh 3 8 h_c106_0 = true := by decide +kernel
theorem cs_c106 (hen : en_ok) (l : Launch) (hh : e2_hand_c l) : e2_smOk l 214 s_c106 := by
  refine e2_conG (H := 211) (n := 2) (C := evd_59) (S := S_c106) (I := I_c106) (fuel := 4000) hen ei_59 (e2_fa ((cs_c38 hen l hh).mono (by decide)) (e2_fa (cs_c105 hen l hh) e2_fz)) (e2_fa ein_19 (e2_fa ein_20 (e2_fa ein_60 e2_fz))) (by decide) co_c106 fun M d _ hC hcall p e R s m args below meth c Q D cA A ads r0 ha hl0 => ?_
  have L_0 : e2_gdM M p l e R s m args below meth c Q D cA A ads r0 66 al_c106_0 [] E_c106_0 h_c106_0 := by
    refine e2_indL (u := 3) (j := 5) (lo := 2147483648) (hi := 2147483678) (b := 3) (dd := 0) hl0 (by decide) rfl rfl (Or.inr ⟨rfl, rfl⟩) rfl ci_c106_0 cj_c106_0 ?_
    intro r_0 k_0 hk_0 hp_0 hs_0 hn_0
    have hl_0 : r_0.length ≤ 4 := hs_0.len rfl
    have ha_0 := ha.ext hp_0
    exact e2_fromM hen ha_0 hcall (e2_cutA_ok (e2_fa (fun al st E h hc => hn_0 al st E h hc) e2_fz)) (hC []) (X := e2x_59) ex2_59 66 ck_c106_0
  have EN_0 := e2_entL (u := 3) (j := 5) (lo := 2147483648) (hi := 2147483678) hl0 rfl rfl rfl ci_c106_0 cj_c106_0 L_0
  exact e2_from hen ha hcall (e2_cutA_ok (e2_fa (fun al st E h hc => EN_0 al st E h hc) e2_fz)) (hC []) (X := e2x_59) ex2_59 0 ck_c106_e
/-! c107 X3_parseFormula -/
def as_c107 : List ev_V := [(2, 33, 0), (2, 11, 0)]
def E_c107 : e2_E := [(2147483648, 2147583648, 0, 0), (2147483652, 2147483668, 1, 0), (2147483648, 2147485248, 2, 0)]
noncomputable def f_c107 : ev_H := (cn639 : e2_Q8)
noncomputable def q_c107_0 : ev_H := (cn639 : e2_Q8)
noncomputable def rs_c107 : e2_Rs := [((11, 2147483648, 2147483649), q_c107_0)]
noncomputable def s_c107 : e2_Sm := (58, as_c107, E_c107, f_c107, rs_c107)
noncomputable def S_c107 : List e2_Sm := [s_c38, s_c39, s_c106]
noncomputable def I_c107 : List e2_In := [(17, 1, e2x_17), (43, 2, e2x_43), (44, 3, e2x_44)]
set_option maxRecDepth 1000000 in
theorem ck_c107 : e2_run (e2_cal S_c107 I_c107 4000 2) (e2_fin rs_c107) e2x_58 (fun _ => false) (fun _ _ _ _ _ => false) 4000 (e2_seek e2x_58 0) (e2_al 2 as_c107) [] E_c107 f_c107 = true := by decide +kernel
set_option maxRecDepth 1000000 in
theorem co_c107 : e2_okSB E_c107.length as_c107 f_c107 rs_c107 = true := by decide +kernel
theorem cs_c107 (hen : en_ok) (l : Launch) (hh : e2_hand_c l) : e2_smOk l 217 s_c107 := e2_con0 (H := 214) (n := 2) (C := evd_58) (S := S_c107) (I := I_c107) (fuel := 4000) [] hen ei_58 (e2_fa ((cs_c38 hen l hh).mono (by decide)) (e2_fa ((cs_c39 hen l hh).mono (by decide)) (e2_fa (cs_c106 hen l hh) e2_fz))) (e2_fa ein_17 (e2_fa ein_43 (e2_fa ein_44 e2_fz))) (by decide) co_c107 ex2_58 ck_c107
/-! c108 X3_parseUnit -/
def as_c108 : List ev_V := [(2, 33, 0), (2, 14, 0), (0, 7, 0)]
def E_c108 : e2_E := [(2147483648, 2147583648, 0, 0), (2147483652, 2147483668, 1, 0), (2147483648, 2147485248, 2, 0)]
def cc174 : ev_C := (0, [(2, 15, 0), (2, 16, 0), (11, 0, 4294967295), (11, 2147483648, 2147483948)])
def cn642 : e2_Q1 := (cc174, cc3)
def cn643 : e2_Q2 := (cn642, cn110)
def cn644 : e2_Q3 := (cn643, cn114)
def cn645 : e2_Q4 := (cn644, cn122)
def cn646 : e2_Q5 := (cn108, cn645)
def cn647 : e2_Q6 := (cn267, cn646)
def cn648 : e2_Q7 := (cn62, cn647)
def cn649 : e2_Q2 := (cn480, cn237)
def cn650 : e2_Q3 := (cn649, cn241)
def cn651 : e2_Q4 := (cn650, cn249)
def cn652 : e2_Q5 := (cn235, cn651)
def cn653 : e2_Q6 := (cn220, cn652)
def cn654 : e2_Q7 := (cn607, cn653)
def cn655 : e2_Q8 := (cn648, cn654)
noncomputable def f_c108 : ev_H := (cn655 : e2_Q8)
noncomputable def q_c108_0 : ev_H := (cn655 : e2_Q8)
noncomputable def rs_c108 : e2_Rs := [((11, 2147483648, 2147483649), q_c108_0)]
noncomputable def s_c108 : e2_Sm := (62, as_c108, E_c108, f_c108, rs_c108)
noncomputable def S_c108 : List e2_Sm := [s_c38]
noncomputable def I_c108 : List e2_In := [(18, 2, e2x_18), (19, 2, e2x_19), (20, 2, e2x_20), (43, 2, e2x_43), (44, 3, e2x_44)]
set_option maxRecDepth 1000000 in
theorem ck_c108 : e2_run (e2_cal S_c108 I_c108 4000 2) (e2_fin rs_c108) e2x_62 (fun _ => false) (fun _ _ _ _ _ => false) 4000 (e2_seek e2x_62 0) (e2_al 7 as_c108) [] E_c108 f_c108 = true := by decide +kernel
set_option maxRecDepth 1000000 in
theorem co_c108 : e2_okSB E_c108.length as_c108 f_c108 rs_c108 = true := by decide +kernel
theorem cs_c108 (hen : en_ok) (l : Launch) (hh : e2_hand_c l) : e2_smOk l 65 s_c108 := e2_con0 (H := 62) (n := 2) (C := evd_62) (S := S_c108) (I := I_c108) (fuel := 4000) [] hen ei_62 (e2_fa (cs_c38 hen l hh) e2_fz) (e2_fa ein_18 (e2_fa ein_19 (e2_fa ein_20 (e2_fa ein_43 (e2_fa ein_44 e2_fz))))) (by decide) co_c108 ex2_62 ck_c108
/-! c109 X3_parseLevel -/
def as_c109 : List ev_V := [(2, 33, 0), (2, 14, 0), (0, 5, 0), (0, 7, 0)]
def E_c109 : e2_E := [(2147483648, 2147583648, 0, 0), (2147483652, 2147483668, 1, 0), (2147483648, 2147485248, 2, 0)]
noncomputable def f_c109 : ev_H := (cn655 : e2_Q8)
noncomputable def q_c109_0 : ev_H := (cn655 : e2_Q8)
noncomputable def rs_c109 : e2_Rs := [((11, 2147483648, 2147483649), q_c109_0)]
noncomputable def s_c109 : e2_Sm := (59, as_c109, E_c109, f_c109, rs_c109)
noncomputable def S_c109 : List e2_Sm := [s_c108]
noncomputable def I_c109 : List e2_In := []
set_option maxRecDepth 1000000 in
theorem ck_c109 : e2_run (e2_cal S_c109 I_c109 4000 0) (e2_fin rs_c109) e2x_59 (fun _ => false) (fun _ _ _ _ _ => false) 4000 (e2_seek e2x_59 0) (e2_al 7 as_c109) [] E_c109 f_c109 = true := by decide +kernel
set_option maxRecDepth 1000000 in
theorem co_c109 : e2_okSB E_c109.length as_c109 f_c109 rs_c109 = true := by decide +kernel
theorem cs_c109 (hen : en_ok) (l : Launch) (hh : e2_hand_c l) : e2_smOk l 66 s_c109 := e2_con0 (H := 65) (n := 0) (C := evd_59) (S := S_c109) (I := I_c109) (fuel := 4000) [] hen ei_59 (e2_fa (cs_c108 hen l hh) e2_fz) e2_fz (by decide) co_c109 ex2_59 ck_c109
/-! c110 X3_parseLevel -/
def as_c110 : List ev_V := [(2, 33, 0), (2, 14, 0), (0, 4, 0), (0, 7, 0)]
def E_c110 : e2_E := [(2147483648, 2147583648, 0, 0), (2147483652, 2147483668, 1, 0), (2147483648, 2147485248, 2, 0)]
noncomputable def f_c110 : ev_H := (cn655 : e2_Q8)
noncomputable def q_c110_0 : ev_H := (cn655 : e2_Q8)
noncomputable def rs_c110 : e2_Rs := [((11, 2147483648, 2147483649), q_c110_0)]
noncomputable def s_c110 : e2_Sm := (59, as_c110, E_c110, f_c110, rs_c110)
noncomputable def S_c110 : List e2_Sm := [s_c38, s_c109]
noncomputable def I_c110 : List e2_In := [(19, 2, e2x_19), (20, 2, e2x_20), (60, 1, e2x_60)]
set_option maxRecDepth 1000000 in
theorem co_c110 : e2_okSB E_c110.length as_c110 f_c110 rs_c110 = true := by decide +kernel
def al_c110_0 : List ev_V := [(2, 33, 0), (2, 14, 0), (0, 4, 0), (0, 7, 0), (0, 30, 0), (1, 3, 4294967296), (9, 0, 0)]
def E_c110_0 : e2_E := [(2147483648, 2147583648, 0, 0), (2147483652, 2147483668, 1, 0), (2147483648, 2147485248, 2, 0), (2147483648, 2147483678, 3, 0)]
noncomputable def h_c110_0 : ev_H := (cn655 : e2_Q8)
noncomputable def cl_c110_e : List (Nat × e2_S) := [(66, e2_cutL (al_c110_0.set 5 (11, 2147483648, 2147483678)) 3 (E_c110_0.take 3) h_c110_0)]
set_option maxRecDepth 1000000 in
theorem ck_c110_e : e2_run (e2_cal S_c110 I_c110 4000 2) (e2_fin rs_c110) e2x_59 (e2_bpL cl_c110_e) (e2_cutA cl_c110_e) 4000 (e2_seek e2x_59 0) (e2_al 7 as_c110) [] E_c110 f_c110 = true := by decide +kernel
noncomputable def cl_c110_0 : List (Nat × e2_S) := [(66, e2_cutL (al_c110_0.set 5 (13, 11, 2147483678)) 3 (E_c110_0.take 3) h_c110_0)]
set_option maxRecDepth 1000000 in
theorem ck_c110_0 : e2_runM (e2_cal S_c110 I_c110 4000 2) (e2_fin rs_c110) e2x_59 (e2_bpL cl_c110_0) (e2_cutA cl_c110_0) 4000 (e2_seek e2x_59 66) al_c110_0 [] E_c110_0 h_c110_0 = true := by decide +kernel
set_option maxRecDepth 1000000 in
theorem ci_c110_0 : e2_idl 3 (al_c110_0.set 5 (9, 0, 0)) = true := by decide +kernel
set_option maxRecDepth 1000000 in
theorem cj_c110_0 : e2_idh 3 8 h_c110_0 = true := by decide +kernel
theorem cs_c110 (hen : en_ok) (l : Launch) (hh : e2_hand_c l) : e2_smOk l 69 s_c110 := by
  refine e2_conG (H := 66) (n := 2) (C := evd_59) (S := S_c110) (I := I_c110) (fuel := 4000) hen ei_59 (e2_fa ((cs_c38 hen l hh).mono (by decide)) (e2_fa (cs_c109 hen l hh) e2_fz)) (e2_fa ein_19 (e2_fa ein_20 (e2_fa ein_60 e2_fz))) (by decide) co_c110 fun M d _ hC hcall p e R s m args below meth c Q D cA A ads r0 ha hl0 => ?_
  have L_0 : e2_gdM M p l e R s m args below meth c Q D cA A ads r0 66 al_c110_0 [] E_c110_0 h_c110_0 := by
    refine e2_indL (u := 3) (j := 5) (lo := 2147483648) (hi := 2147483678) (b := 3) (dd := 0) hl0 (by decide) rfl rfl (Or.inr ⟨rfl, rfl⟩) rfl ci_c110_0 cj_c110_0 ?_
    intro r_0 k_0 hk_0 hp_0 hs_0 hn_0
    have hl_0 : r_0.length ≤ 4 := hs_0.len rfl
    have ha_0 := ha.ext hp_0
    exact e2_fromM hen ha_0 hcall (e2_cutA_ok (e2_fa (fun al st E h hc => hn_0 al st E h hc) e2_fz)) (hC []) (X := e2x_59) ex2_59 66 ck_c110_0
  have EN_0 := e2_entL (u := 3) (j := 5) (lo := 2147483648) (hi := 2147483678) hl0 rfl rfl rfl ci_c110_0 cj_c110_0 L_0
  exact e2_from hen ha hcall (e2_cutA_ok (e2_fa (fun al st E h hc => EN_0 al st E h hc) e2_fz)) (hC []) (X := e2x_59) ex2_59 0 ck_c110_e
/-! c111 X3_parseLevel -/
def as_c111 : List ev_V := [(2, 33, 0), (2, 14, 0), (0, 3, 0), (0, 7, 0)]
def E_c111 : e2_E := [(2147483648, 2147583648, 0, 0), (2147483652, 2147483668, 1, 0), (2147483648, 2147485248, 2, 0)]
noncomputable def f_c111 : ev_H := (cn655 : e2_Q8)
noncomputable def q_c111_0 : ev_H := (cn655 : e2_Q8)
noncomputable def rs_c111 : e2_Rs := [((11, 2147483648, 2147483649), q_c111_0)]
noncomputable def s_c111 : e2_Sm := (59, as_c111, E_c111, f_c111, rs_c111)
noncomputable def S_c111 : List e2_Sm := [s_c38, s_c110]
noncomputable def I_c111 : List e2_In := [(19, 2, e2x_19), (20, 2, e2x_20), (60, 1, e2x_60)]
set_option maxRecDepth 1000000 in
theorem co_c111 : e2_okSB E_c111.length as_c111 f_c111 rs_c111 = true := by decide +kernel
def al_c111_0 : List ev_V := [(2, 33, 0), (2, 14, 0), (0, 3, 0), (0, 7, 0), (0, 30, 0), (1, 3, 4294967296), (9, 0, 0)]
def E_c111_0 : e2_E := [(2147483648, 2147583648, 0, 0), (2147483652, 2147483668, 1, 0), (2147483648, 2147485248, 2, 0), (2147483648, 2147483678, 3, 0)]
noncomputable def h_c111_0 : ev_H := (cn655 : e2_Q8)
noncomputable def cl_c111_e : List (Nat × e2_S) := [(66, e2_cutL (al_c111_0.set 5 (11, 2147483648, 2147483678)) 3 (E_c111_0.take 3) h_c111_0)]
set_option maxRecDepth 1000000 in
theorem ck_c111_e : e2_run (e2_cal S_c111 I_c111 4000 2) (e2_fin rs_c111) e2x_59 (e2_bpL cl_c111_e) (e2_cutA cl_c111_e) 4000 (e2_seek e2x_59 0) (e2_al 7 as_c111) [] E_c111 f_c111 = true := by decide +kernel
noncomputable def cl_c111_0 : List (Nat × e2_S) := [(66, e2_cutL (al_c111_0.set 5 (13, 11, 2147483678)) 3 (E_c111_0.take 3) h_c111_0)]
set_option maxRecDepth 1000000 in
theorem ck_c111_0 : e2_runM (e2_cal S_c111 I_c111 4000 2) (e2_fin rs_c111) e2x_59 (e2_bpL cl_c111_0) (e2_cutA cl_c111_0) 4000 (e2_seek e2x_59 66) al_c111_0 [] E_c111_0 h_c111_0 = true := by decide +kernel
set_option maxRecDepth 1000000 in
theorem ci_c111_0 : e2_idl 3 (al_c111_0.set 5 (9, 0, 0)) = true := by decide +kernel
set_option maxRecDepth 1000000 in
theorem cj_c111_0 : e2_idh 3 8 h_c111_0 = true := by decide +kernel
theorem cs_c111 (hen : en_ok) (l : Launch) (hh : e2_hand_c l) : e2_smOk l 72 s_c111 := by
  refine e2_conG (H := 69) (n := 2) (C := evd_59) (S := S_c111) (I := I_c111) (fuel := 4000) hen ei_59 (e2_fa ((cs_c38 hen l hh).mono (by decide)) (e2_fa (cs_c110 hen l hh) e2_fz)) (e2_fa ein_19 (e2_fa ein_20 (e2_fa ein_60 e2_fz))) (by decide) co_c111 fun M d _ hC hcall p e R s m args below meth c Q D cA A ads r0 ha hl0 => ?_
  have L_0 : e2_gdM M p l e R s m args below meth c Q D cA A ads r0 66 al_c111_0 [] E_c111_0 h_c111_0 := by
    refine e2_indL (u := 3) (j := 5) (lo := 2147483648) (hi := 2147483678) (b := 3) (dd := 0) hl0 (by decide) rfl rfl (Or.inr ⟨rfl, rfl⟩) rfl ci_c111_0 cj_c111_0 ?_
    intro r_0 k_0 hk_0 hp_0 hs_0 hn_0
    have hl_0 : r_0.length ≤ 4 := hs_0.len rfl
    have ha_0 := ha.ext hp_0
    exact e2_fromM hen ha_0 hcall (e2_cutA_ok (e2_fa (fun al st E h hc => hn_0 al st E h hc) e2_fz)) (hC []) (X := e2x_59) ex2_59 66 ck_c111_0
  have EN_0 := e2_entL (u := 3) (j := 5) (lo := 2147483648) (hi := 2147483678) hl0 rfl rfl rfl ci_c111_0 cj_c111_0 L_0
  exact e2_from hen ha hcall (e2_cutA_ok (e2_fa (fun al st E h hc => EN_0 al st E h hc) e2_fz)) (hC []) (X := e2x_59) ex2_59 0 ck_c111_e
/-! c112 X3_parseNot -/
def as_c112 : List ev_V := [(2, 33, 0), (2, 14, 0), (0, 7, 0)]
def E_c112 : e2_E := [(2147483648, 2147583648, 0, 0), (2147483652, 2147483668, 1, 0), (2147483648, 2147485248, 2, 0)]
noncomputable def f_c112 : ev_H := (cn641 : e2_Q8)
noncomputable def q_c112_0 : ev_H := (cn641 : e2_Q8)
noncomputable def rs_c112 : e2_Rs := [((0, 0, 0), q_c112_0)]
noncomputable def s_c112 : e2_Sm := (61, as_c112, E_c112, f_c112, rs_c112)
noncomputable def S_c112 : List e2_Sm := []
noncomputable def I_c112 : List e2_In := [(43, 2, e2x_43), (44, 3, e2x_44)]
set_option maxRecDepth 1000000 in
theorem ck_c112 : e2_run (e2_cal S_c112 I_c112 4000 2) (e2_fin rs_c112) e2x_61 (fun _ => false) (fun _ _ _ _ _ => false) 4000 (e2_seek e2x_61 0) (e2_al 3 as_c112) [] E_c112 f_c112 = true := by decide +kernel
set_option maxRecDepth 1000000 in
theorem co_c112 : e2_okSB E_c112.length as_c112 f_c112 rs_c112 = true := by decide +kernel
theorem cs_c112 (hen : en_ok) (l : Launch) : e2_smOk l 3 s_c112 := e2_con0 (H := 0) (n := 2) (C := evd_61) (S := S_c112) (I := I_c112) (fuel := 4000) [] hen ei_61 e2_fz (e2_fa ein_43 (e2_fa ein_44 e2_fz)) (by decide) co_c112 ex2_61 ck_c112
/-! c113 X3_parseLevel -/
def as_c113 : List ev_V := [(2, 33, 0), (2, 14, 0), (0, 2, 0), (0, 7, 0)]
def E_c113 : e2_E := [(2147483648, 2147583648, 0, 0), (2147483652, 2147483668, 1, 0), (2147483648, 2147485248, 2, 0)]
noncomputable def f_c113 : ev_H := (cn655 : e2_Q8)
noncomputable def q_c113_0 : ev_H := (cn655 : e2_Q8)
noncomputable def rs_c113 : e2_Rs := [((11, 2147483648, 2147483649), q_c113_0)]
noncomputable def s_c113 : e2_Sm := (59, as_c113, E_c113, f_c113, rs_c113)
noncomputable def S_c113 : List e2_Sm := [s_c38, s_c111, s_c112]
noncomputable def I_c113 : List e2_In := [(19, 2, e2x_19), (20, 2, e2x_20), (60, 1, e2x_60)]
set_option maxRecDepth 1000000 in
theorem co_c113 : e2_okSB E_c113.length as_c113 f_c113 rs_c113 = true := by decide +kernel
def al_c113_0 : List ev_V := [(2, 33, 0), (2, 14, 0), (0, 2, 0), (0, 7, 0), (0, 1, 0), (1, 3, 4294967296), (9, 0, 0)]
def E_c113_0 : e2_E := [(2147483648, 2147583648, 0, 0), (2147483652, 2147483668, 1, 0), (2147483648, 2147485248, 2, 0), (2147483648, 2147483649, 3, 0)]
noncomputable def h_c113_0 : ev_H := (cn655 : e2_Q8)
noncomputable def cl_c113_e : List (Nat × e2_S) := [(66, e2_cutL (al_c113_0.set 5 (11, 2147483648, 2147483649)) 3 (E_c113_0.take 3) h_c113_0)]
set_option maxRecDepth 1000000 in
theorem ck_c113_e : e2_run (e2_cal S_c113 I_c113 4000 2) (e2_fin rs_c113) e2x_59 (e2_bpL cl_c113_e) (e2_cutA cl_c113_e) 4000 (e2_seek e2x_59 0) (e2_al 7 as_c113) [] E_c113 f_c113 = true := by decide +kernel
noncomputable def cl_c113_0 : List (Nat × e2_S) := [(66, e2_cutL (al_c113_0.set 5 (13, 11, 2147483649)) 3 (E_c113_0.take 3) h_c113_0)]
set_option maxRecDepth 1000000 in
theorem ck_c113_0 : e2_runM (e2_cal S_c113 I_c113 4000 2) (e2_fin rs_c113) e2x_59 (e2_bpL cl_c113_0) (e2_cutA cl_c113_0) 4000 (e2_seek e2x_59 66) al_c113_0 [] E_c113_0 h_c113_0 = true := by decide +kernel
set_option maxRecDepth 1000000 in
theorem ci_c113_0 : e2_idl 3 (al_c113_0.set 5 (9, 0, 0)) = true := by decide +kernel
set_option maxRecDepth 1000000 in
theorem cj_c113_0 : e2_idh 3 8 h_c113_0 = true := by decide +kernel
theorem cs_c113 (hen : en_ok) (l : Launch) (hh : e2_hand_c l) : e2_smOk l 75 s_c113 := by
  refine e2_conG (H := 72) (n := 2) (C := evd_59) (S := S_c113) (I := I_c113) (fuel := 4000) hen ei_59 (e2_fa ((cs_c38 hen l hh).mono (by decide)) (e2_fa (cs_c111 hen l hh) (e2_fa ((cs_c112 hen l).mono (by decide)) e2_fz))) (e2_fa ein_19 (e2_fa ein_20 (e2_fa ein_60 e2_fz))) (by decide) co_c113 fun M d _ hC hcall p e R s m args below meth c Q D cA A ads r0 ha hl0 => ?_
  have L_0 : e2_gdM M p l e R s m args below meth c Q D cA A ads r0 66 al_c113_0 [] E_c113_0 h_c113_0 := by
    refine e2_indL (u := 3) (j := 5) (lo := 2147483648) (hi := 2147483649) (b := 3) (dd := 0) hl0 (by decide) rfl rfl (Or.inr ⟨rfl, rfl⟩) rfl ci_c113_0 cj_c113_0 ?_
    intro r_0 k_0 hk_0 hp_0 hs_0 hn_0
    have hl_0 : r_0.length ≤ 4 := hs_0.len rfl
    have ha_0 := ha.ext hp_0
    exact e2_fromM hen ha_0 hcall (e2_cutA_ok (e2_fa (fun al st E h hc => hn_0 al st E h hc) e2_fz)) (hC []) (X := e2x_59) ex2_59 66 ck_c113_0
  have EN_0 := e2_entL (u := 3) (j := 5) (lo := 2147483648) (hi := 2147483649) hl0 rfl rfl rfl ci_c113_0 cj_c113_0 L_0
  exact e2_from hen ha hcall (e2_cutA_ok (e2_fa (fun al st E h hc => EN_0 al st E h hc) e2_fz)) (hC []) (X := e2x_59) ex2_59 0 ck_c113_e
/-! c114 X3_parseLevel -/
def as_c114 : List ev_V := [(2, 33, 0), (2, 14, 0), (0, 1, 0), (0, 7, 0)]
def E_c114 : e2_E := [(2147483648, 2147583648, 0, 0), (2147483652, 2147483668, 1, 0), (2147483648, 2147485248, 2, 0)]
noncomputable def f_c114 : ev_H := (cn655 : e2_Q8)
noncomputable def q_c114_0 : ev_H := (cn655 : e2_Q8)
noncomputable def rs_c114 : e2_Rs := [((11, 2147483648, 2147483649), q_c114_0)]
noncomputable def s_c114 : e2_Sm := (59, as_c114, E_c114, f_c114, rs_c114)
noncomputable def S_c114 : List e2_Sm := [s_c38, s_c113]
noncomputable def I_c114 : List e2_In := [(19, 2, e2x_19), (20, 2, e2x_20), (60, 1, e2x_60)]
set_option maxRecDepth 1000000 in
theorem co_c114 : e2_okSB E_c114.length as_c114 f_c114 rs_c114 = true := by decide +kernel
def al_c114_0 : List ev_V := [(2, 33, 0), (2, 14, 0), (0, 1, 0), (0, 7, 0), (0, 30, 0), (1, 3, 4294967296), (9, 0, 0)]
def E_c114_0 : e2_E := [(2147483648, 2147583648, 0, 0), (2147483652, 2147483668, 1, 0), (2147483648, 2147485248, 2, 0), (2147483648, 2147483678, 3, 0)]
noncomputable def h_c114_0 : ev_H := (cn655 : e2_Q8)
noncomputable def cl_c114_e : List (Nat × e2_S) := [(66, e2_cutL (al_c114_0.set 5 (11, 2147483648, 2147483678)) 3 (E_c114_0.take 3) h_c114_0)]
set_option maxRecDepth 1000000 in
theorem ck_c114_e : e2_run (e2_cal S_c114 I_c114 4000 2) (e2_fin rs_c114) e2x_59 (e2_bpL cl_c114_e) (e2_cutA cl_c114_e) 4000 (e2_seek e2x_59 0) (e2_al 7 as_c114) [] E_c114 f_c114 = true := by decide +kernel
noncomputable def cl_c114_0 : List (Nat × e2_S) := [(66, e2_cutL (al_c114_0.set 5 (13, 11, 2147483678)) 3 (E_c114_0.take 3) h_c114_0)]
set_option maxRecDepth 1000000 in
theorem ck_c114_0 : e2_runM (e2_cal S_c114 I_c114 4000 2) (e2_fin rs_c114) e2x_59 (e2_bpL cl_c114_0) (e2_cutA cl_c114_0) 4000 (e2_seek e2x_59 66) al_c114_0 [] E_c114_0 h_c114_0 = true := by decide +kernel
set_option maxRecDepth 1000000 in
theorem ci_c114_0 : e2_idl 3 (al_c114_0.set 5 (9, 0, 0)) = true := by decide +kernel
set_option maxRecDepth 1000000 in
theorem cj_c114_0 : e2_idh 3 8 h_c114_0 = true := by decide +kernel
theorem cs_c114 (hen : en_ok) (l : Launch) (hh : e2_hand_c l) : e2_smOk l 78 s_c114 := by
  refine e2_conG (H := 75) (n := 2) (C := evd_59) (S := S_c114) (I := I_c114) (fuel := 4000) hen ei_59 (e2_fa ((cs_c38 hen l hh).mono (by decide)) (e2_fa (cs_c113 hen l hh) e2_fz)) (e2_fa ein_19 (e2_fa ein_20 (e2_fa ein_60 e2_fz))) (by decide) co_c114 fun M d _ hC hcall p e R s m args below meth c Q D cA A ads r0 ha hl0 => ?_
  have L_0 : e2_gdM M p l e R s m args below meth c Q D cA A ads r0 66 al_c114_0 [] E_c114_0 h_c114_0 := by
    refine e2_indL (u := 3) (j := 5) (lo := 2147483648) (hi := 2147483678) (b := 3) (dd := 0) hl0 (by decide) rfl rfl (Or.inr ⟨rfl, rfl⟩) rfl ci_c114_0 cj_c114_0 ?_
    intro r_0 k_0 hk_0 hp_0 hs_0 hn_0
    have hl_0 : r_0.length ≤ 4 := hs_0.len rfl
    have ha_0 := ha.ext hp_0
    exact e2_fromM hen ha_0 hcall (e2_cutA_ok (e2_fa (fun al st E h hc => hn_0 al st E h hc) e2_fz)) (hC []) (X := e2x_59) ex2_59 66 ck_c114_0
  have EN_0 := e2_entL (u := 3) (j := 5) (lo := 2147483648) (hi := 2147483678) hl0 rfl rfl rfl ci_c114_0 cj_c114_0 L_0
  exact e2_from hen ha hcall (e2_cutA_ok (e2_fa (fun al st E h hc => EN_0 al st E h hc) e2_fz)) (hC []) (X := e2x_59) ex2_59 0 ck_c114_e
/-! c115 X3_parseLevel -/
def as_c115 : List ev_V := [(2, 33, 0), (2, 14, 0), (0, 0, 0), (0, 7, 0)]
def E_c115 : e2_E := [(2147483648, 2147583648, 0, 0), (2147483652, 2147483668, 1, 0), (2147483648, 2147485248, 2, 0)]
noncomputable def f_c115 : ev_H := (cn655 : e2_Q8)
noncomputable def q_c115_0 : ev_H := (cn655 : e2_Q8)
noncomputable def rs_c115 : e2_Rs := [((11, 2147483648, 2147483649), q_c115_0)]
noncomputable def s_c115 : e2_Sm := (59, as_c115, E_c115, f_c115, rs_c115)
noncomputable def S_c115 : List e2_Sm := [s_c38, s_c114]
noncomputable def I_c115 : List e2_In := [(19, 2, e2x_19), (20, 2, e2x_20), (60, 1, e2x_60)]
set_option maxRecDepth 1000000 in
theorem co_c115 : e2_okSB E_c115.length as_c115 f_c115 rs_c115 = true := by decide +kernel
def al_c115_0 : List ev_V := [(2, 33, 0), (2, 14, 0), (0, 0, 0), (0, 7, 0), (0, 30, 0), (1, 3, 4294967296), (9, 0, 0)]
def E_c115_0 : e2_E := [(2147483648, 2147583648, 0, 0), (2147483652, 2147483668, 1, 0), (2147483648, 2147485248, 2, 0), (2147483648, 2147483678, 3, 0)]
noncomputable def h_c115_0 : ev_H := (cn655 : e2_Q8)
noncomputable def cl_c115_e : List (Nat × e2_S) := [(66, e2_cutL (al_c115_0.set 5 (11, 2147483648, 2147483678)) 3 (E_c115_0.take 3) h_c115_0)]
set_option maxRecDepth 1000000 in
theorem ck_c115_e : e2_run (e2_cal S_c115 I_c115 4000 2) (e2_fin rs_c115) e2x_59 (e2_bpL cl_c115_e) (e2_cutA cl_c115_e) 4000 (e2_seek e2x_59 0) (e2_al 7 as_c115) [] E_c115 f_c115 = true := by decide +kernel
noncomputable def cl_c115_0 : List (Nat × e2_S) := [(66, e2_cutL (al_c115_0.set 5 (13, 11, 2147483678)) 3 (E_c115_0.take 3) h_c115_0)]
set_option maxRecDepth 1000000 in
theorem ck_c115_0 : e2_runM (e2_cal S_c115 I_c115 4000 2) (e2_fin rs_c115) e2x_59 (e2_bpL cl_c115_0) (e2_cutA cl_c115_0) 4000 (e2_seek e2x_59 66) al_c115_0 [] E_c115_0 h_c115_0 = true := by decide +kernel
set_option maxRecDepth 1000000 in
theorem ci_c115_0 : e2_idl 3 (al_c115_0.set 5 (9, 0, 0)) = true := by decide +kernel
set_option maxRecDepth 1000000 in
theorem cj_c115_0 : e2_idh 3 8 h_c115_0 = true := by decide +kernel
theorem cs_c115 (hen : en_ok) (l : Launch) (hh : e2_hand_c l) : e2_smOk l 81 s_c115 := by
  refine e2_conG (H := 78) (n := 2) (C := evd_59) (S := S_c115) (I := I_c115) (fuel := 4000) hen ei_59 (e2_fa ((cs_c38 hen l hh).mono (by decide)) (e2_fa (cs_c114 hen l hh) e2_fz)) (e2_fa ein_19 (e2_fa ein_20 (e2_fa ein_60 e2_fz))) (by decide) co_c115 fun M d _ hC hcall p e R s m args below meth c Q D cA A ads r0 ha hl0 => ?_
  have L_0 : e2_gdM M p l e R s m args below meth c Q D cA A ads r0 66 al_c115_0 [] E_c115_0 h_c115_0 := by
    refine e2_indL (u := 3) (j := 5) (lo := 2147483648) (hi := 2147483678) (b := 3) (dd := 0) hl0 (by decide) rfl rfl (Or.inr ⟨rfl, rfl⟩) rfl ci_c115_0 cj_c115_0 ?_
    intro r_0 k_0 hk_0 hp_0 hs_0 hn_0
    have hl_0 : r_0.length ≤ 4 := hs_0.len rfl
    have ha_0 := ha.ext hp_0
    exact e2_fromM hen ha_0 hcall (e2_cutA_ok (e2_fa (fun al st E h hc => hn_0 al st E h hc) e2_fz)) (hC []) (X := e2x_59) ex2_59 66 ck_c115_0
  have EN_0 := e2_entL (u := 3) (j := 5) (lo := 2147483648) (hi := 2147483678) hl0 rfl rfl rfl ci_c115_0 cj_c115_0 L_0
  exact e2_from hen ha hcall (e2_cutA_ok (e2_fa (fun al st E h hc => EN_0 al st E h hc) e2_fz)) (hC []) (X := e2x_59) ex2_59 0 ck_c115_e
/-! c116 X3_parseUnit -/
def as_c116 : List ev_V := [(2, 33, 0), (2, 14, 0), (0, 6, 0)]
def E_c116 : e2_E := [(2147483648, 2147583648, 0, 0), (2147483652, 2147483668, 1, 0), (2147483648, 2147485248, 2, 0)]
noncomputable def f_c116 : ev_H := (cn655 : e2_Q8)
noncomputable def q_c116_0 : ev_H := (cn655 : e2_Q8)
noncomputable def rs_c116 : e2_Rs := [((11, 2147483648, 2147483649), q_c116_0)]
noncomputable def s_c116 : e2_Sm := (62, as_c116, E_c116, f_c116, rs_c116)
noncomputable def S_c116 : List e2_Sm := [s_c38, s_c39, s_c115]
noncomputable def I_c116 : List e2_In := [(18, 2, e2x_18), (19, 2, e2x_19), (20, 2, e2x_20), (43, 2, e2x_43), (44, 3, e2x_44)]
set_option maxRecDepth 1000000 in
theorem ck_c116 : e2_run (e2_cal S_c116 I_c116 4000 2) (e2_fin rs_c116) e2x_62 (fun _ => false) (fun _ _ _ _ _ => false) 4000 (e2_seek e2x_62 0) (e2_al 7 as_c116) [] E_c116 f_c116 = true := by decide +kernel
set_option maxRecDepth 1000000 in
theorem co_c116 : e2_okSB E_c116.length as_c116 f_c116 rs_c116 = true := by decide +kernel
theorem cs_c116 (hen : en_ok) (l : Launch) (hh : e2_hand_c l) : e2_smOk l 84 s_c116 := e2_con0 (H := 81) (n := 2) (C := evd_62) (S := S_c116) (I := I_c116) (fuel := 4000) [] hen ei_62 (e2_fa ((cs_c38 hen l hh).mono (by decide)) (e2_fa ((cs_c39 hen l hh).mono (by decide)) (e2_fa (cs_c115 hen l hh) e2_fz))) (e2_fa ein_18 (e2_fa ein_19 (e2_fa ein_20 (e2_fa ein_43 (e2_fa ein_44 e2_fz))))) (by decide) co_c116 ex2_62 ck_c116
/-! c117 X3_parseLevel -/
def as_c117 : List ev_V := [(2, 33, 0), (2, 14, 0), (0, 5, 0), (0, 6, 0)]
def E_c117 : e2_E := [(2147483648, 2147583648, 0, 0), (2147483652, 2147483668, 1, 0), (2147483648, 2147485248, 2, 0)]
noncomputable def f_c117 : ev_H := (cn655 : e2_Q8)
noncomputable def q_c117_0 : ev_H := (cn655 : e2_Q8)
noncomputable def rs_c117 : e2_Rs := [((11, 2147483648, 2147483649), q_c117_0)]
noncomputable def s_c117 : e2_Sm := (59, as_c117, E_c117, f_c117, rs_c117)
noncomputable def S_c117 : List e2_Sm := [s_c116]
noncomputable def I_c117 : List e2_In := []
set_option maxRecDepth 1000000 in
theorem ck_c117 : e2_run (e2_cal S_c117 I_c117 4000 0) (e2_fin rs_c117) e2x_59 (fun _ => false) (fun _ _ _ _ _ => false) 4000 (e2_seek e2x_59 0) (e2_al 7 as_c117) [] E_c117 f_c117 = true := by decide +kernel
set_option maxRecDepth 1000000 in
theorem co_c117 : e2_okSB E_c117.length as_c117 f_c117 rs_c117 = true := by decide +kernel
theorem cs_c117 (hen : en_ok) (l : Launch) (hh : e2_hand_c l) : e2_smOk l 85 s_c117 := e2_con0 (H := 84) (n := 0) (C := evd_59) (S := S_c117) (I := I_c117) (fuel := 4000) [] hen ei_59 (e2_fa (cs_c116 hen l hh) e2_fz) e2_fz (by decide) co_c117 ex2_59 ck_c117
/-! c118 X3_parseLevel -/
def as_c118 : List ev_V := [(2, 33, 0), (2, 14, 0), (0, 4, 0), (0, 6, 0)]
def E_c118 : e2_E := [(2147483648, 2147583648, 0, 0), (2147483652, 2147483668, 1, 0), (2147483648, 2147485248, 2, 0)]
noncomputable def f_c118 : ev_H := (cn655 : e2_Q8)
noncomputable def q_c118_0 : ev_H := (cn655 : e2_Q8)
noncomputable def rs_c118 : e2_Rs := [((11, 2147483648, 2147483649), q_c118_0)]
noncomputable def s_c118 : e2_Sm := (59, as_c118, E_c118, f_c118, rs_c118)
noncomputable def S_c118 : List e2_Sm := [s_c38, s_c117]
noncomputable def I_c118 : List e2_In := [(19, 2, e2x_19), (20, 2, e2x_20), (60, 1, e2x_60)]
set_option maxRecDepth 1000000 in
theorem co_c118 : e2_okSB E_c118.length as_c118 f_c118 rs_c118 = true := by decide +kernel
def al_c118_0 : List ev_V := [(2, 33, 0), (2, 14, 0), (0, 4, 0), (0, 6, 0), (0, 30, 0), (1, 3, 4294967296), (9, 0, 0)]
def E_c118_0 : e2_E := [(2147483648, 2147583648, 0, 0), (2147483652, 2147483668, 1, 0), (2147483648, 2147485248, 2, 0), (2147483648, 2147483678, 3, 0)]
noncomputable def h_c118_0 : ev_H := (cn655 : e2_Q8)
noncomputable def cl_c118_e : List (Nat × e2_S) := [(66, e2_cutL (al_c118_0.set 5 (11, 2147483648, 2147483678)) 3 (E_c118_0.take 3) h_c118_0)]
set_option maxRecDepth 1000000 in
theorem ck_c118_e : e2_run (e2_cal S_c118 I_c118 4000 2) (e2_fin rs_c118) e2x_59 (e2_bpL cl_c118_e) (e2_cutA cl_c118_e) 4000 (e2_seek e2x_59 0) (e2_al 7 as_c118) [] E_c118 f_c118 = true := by decide +kernel
noncomputable def cl_c118_0 : List (Nat × e2_S) := [(66, e2_cutL (al_c118_0.set 5 (13, 11, 2147483678)) 3 (E_c118_0.take 3) h_c118_0)]
set_option maxRecDepth 1000000 in
theorem ck_c118_0 : e2_runM (e2_cal S_c118 I_c118 4000 2) (e2_fin rs_c118) e2x_59 (e2_bpL cl_c118_0) (e2_cutA cl_c118_0) 4000 (e2_seek e2x_59 66) al_c118_0 [] E_c118_0 h_c118_0 = true := by decide +kernel
set_option maxRecDepth 1000000 in
theorem ci_c118_0 : e2_idl 3 (al_c118_0.set 5 (9, 0, 0)) = true := by decide +kernel
set_option maxRecDepth 1000000 in
theorem cj_c118_0 : e2_idh 3 8 h_c118_0 = true := by decide +kernel
theorem cs_c118 (hen : en_ok) (l : Launch) (hh : e2_hand_c l) : e2_smOk l 88 s_c118 := by
  refine e2_conG (H := 85) (n := 2) (C := evd_59) (S := S_c118) (I := I_c118) (fuel := 4000) hen ei_59 (e2_fa ((cs_c38 hen l hh).mono (by decide)) (e2_fa (cs_c117 hen l hh) e2_fz)) (e2_fa ein_19 (e2_fa ein_20 (e2_fa ein_60 e2_fz))) (by decide) co_c118 fun M d _ hC hcall p e R s m args below meth c Q D cA A ads r0 ha hl0 => ?_
  have L_0 : e2_gdM M p l e R s m args below meth c Q D cA A ads r0 66 al_c118_0 [] E_c118_0 h_c118_0 := by
    refine e2_indL (u := 3) (j := 5) (lo := 2147483648) (hi := 2147483678) (b := 3) (dd := 0) hl0 (by decide) rfl rfl (Or.inr ⟨rfl, rfl⟩) rfl ci_c118_0 cj_c118_0 ?_
    intro r_0 k_0 hk_0 hp_0 hs_0 hn_0
    have hl_0 : r_0.length ≤ 4 := hs_0.len rfl
    have ha_0 := ha.ext hp_0
    exact e2_fromM hen ha_0 hcall (e2_cutA_ok (e2_fa (fun al st E h hc => hn_0 al st E h hc) e2_fz)) (hC []) (X := e2x_59) ex2_59 66 ck_c118_0
  have EN_0 := e2_entL (u := 3) (j := 5) (lo := 2147483648) (hi := 2147483678) hl0 rfl rfl rfl ci_c118_0 cj_c118_0 L_0
  exact e2_from hen ha hcall (e2_cutA_ok (e2_fa (fun al st E h hc => EN_0 al st E h hc) e2_fz)) (hC []) (X := e2x_59) ex2_59 0 ck_c118_e
/-! c119 X3_parseLevel -/
def as_c119 : List ev_V := [(2, 33, 0), (2, 14, 0), (0, 3, 0), (0, 6, 0)]
def E_c119 : e2_E := [(2147483648, 2147583648, 0, 0), (2147483652, 2147483668, 1, 0), (2147483648, 2147485248, 2, 0)]
noncomputable def f_c119 : ev_H := (cn655 : e2_Q8)
noncomputable def q_c119_0 : ev_H := (cn655 : e2_Q8)
noncomputable def rs_c119 : e2_Rs := [((11, 2147483648, 2147483649), q_c119_0)]
noncomputable def s_c119 : e2_Sm := (59, as_c119, E_c119, f_c119, rs_c119)
noncomputable def S_c119 : List e2_Sm := [s_c38, s_c118]
noncomputable def I_c119 : List e2_In := [(19, 2, e2x_19), (20, 2, e2x_20), (60, 1, e2x_60)]
set_option maxRecDepth 1000000 in
theorem co_c119 : e2_okSB E_c119.length as_c119 f_c119 rs_c119 = true := by decide +kernel
def al_c119_0 : List ev_V := [(2, 33, 0), (2, 14, 0), (0, 3, 0), (0, 6, 0), (0, 30, 0), (1, 3, 4294967296), (9, 0, 0)]
def E_c119_0 : e2_E := [(2147483648, 2147583648, 0, 0), (2147483652, 2147483668, 1, 0), (2147483648, 2147485248, 2, 0), (2147483648, 2147483678, 3, 0)]
noncomputable def h_c119_0 : ev_H := (cn655 : e2_Q8)
noncomputable def cl_c119_e : List (Nat × e2_S) := [(66, e2_cutL (al_c119_0.set 5 (11, 2147483648, 2147483678)) 3 (E_c119_0.take 3) h_c119_0)]
set_option maxRecDepth 1000000 in
theorem ck_c119_e : e2_run (e2_cal S_c119 I_c119 4000 2) (e2_fin rs_c119) e2x_59 (e2_bpL cl_c119_e) (e2_cutA cl_c119_e) 4000 (e2_seek e2x_59 0) (e2_al 7 as_c119) [] E_c119 f_c119 = true := by decide +kernel
noncomputable def cl_c119_0 : List (Nat × e2_S) := [(66, e2_cutL (al_c119_0.set 5 (13, 11, 2147483678)) 3 (E_c119_0.take 3) h_c119_0)]
set_option maxRecDepth 1000000 in
theorem ck_c119_0 : e2_runM (e2_cal S_c119 I_c119 4000 2) (e2_fin rs_c119) e2x_59 (e2_bpL cl_c119_0) (e2_cutA cl_c119_0) 4000 (e2_seek e2x_59 66) al_c119_0 [] E_c119_0 h_c119_0 = true := by decide +kernel
set_option maxRecDepth 1000000 in
theorem ci_c119_0 : e2_idl 3 (al_c119_0.set 5 (9, 0, 0)) = true := by decide +kernel
set_option maxRecDepth 1000000 in
theorem cj_c119_0 : e2_idh 3 8 h_c119_0 = true := by decide +kernel
theorem cs_c119 (hen : en_ok) (l : Launch) (hh : e2_hand_c l) : e2_smOk l 91 s_c119 := by
  refine e2_conG (H := 88) (n := 2) (C := evd_59) (S := S_c119) (I := I_c119) (fuel := 4000) hen ei_59 (e2_fa ((cs_c38 hen l hh).mono (by decide)) (e2_fa (cs_c118 hen l hh) e2_fz)) (e2_fa ein_19 (e2_fa ein_20 (e2_fa ein_60 e2_fz))) (by decide) co_c119 fun M d _ hC hcall p e R s m args below meth c Q D cA A ads r0 ha hl0 => ?_
  have L_0 : e2_gdM M p l e R s m args below meth c Q D cA A ads r0 66 al_c119_0 [] E_c119_0 h_c119_0 := by
    refine e2_indL (u := 3) (j := 5) (lo := 2147483648) (hi := 2147483678) (b := 3) (dd := 0) hl0 (by decide) rfl rfl (Or.inr ⟨rfl, rfl⟩) rfl ci_c119_0 cj_c119_0 ?_
    intro r_0 k_0 hk_0 hp_0 hs_0 hn_0
    have hl_0 : r_0.length ≤ 4 := hs_0.len rfl
    have ha_0 := ha.ext hp_0
    exact e2_fromM hen ha_0 hcall (e2_cutA_ok (e2_fa (fun al st E h hc => hn_0 al st E h hc) e2_fz)) (hC []) (X := e2x_59) ex2_59 66 ck_c119_0
  have EN_0 := e2_entL (u := 3) (j := 5) (lo := 2147483648) (hi := 2147483678) hl0 rfl rfl rfl ci_c119_0 cj_c119_0 L_0
  exact e2_from hen ha hcall (e2_cutA_ok (e2_fa (fun al st E h hc => EN_0 al st E h hc) e2_fz)) (hC []) (X := e2x_59) ex2_59 0 ck_c119_e
/-! c120 X3_parseNot -/
def as_c120 : List ev_V := [(2, 33, 0), (2, 14, 0), (0, 6, 0)]
def E_c120 : e2_E := [(2147483648, 2147583648, 0, 0), (2147483652, 2147483668, 1, 0), (2147483648, 2147485248, 2, 0)]
noncomputable def f_c120 : ev_H := (cn655 : e2_Q8)
noncomputable def q_c120_0 : ev_H := (cn655 : e2_Q8)
noncomputable def rs_c120 : e2_Rs := [((11, 2147483648, 2147483649), q_c120_0)]
noncomputable def s_c120 : e2_Sm := (61, as_c120, E_c120, f_c120, rs_c120)
noncomputable def S_c120 : List e2_Sm := [s_c38, s_c113]
noncomputable def I_c120 : List e2_In := [(19, 2, e2x_19), (20, 2, e2x_20)]
set_option maxRecDepth 1000000 in
theorem ck_c120 : e2_run (e2_cal S_c120 I_c120 4000 2) (e2_fin rs_c120) e2x_61 (fun _ => false) (fun _ _ _ _ _ => false) 4000 (e2_seek e2x_61 0) (e2_al 3 as_c120) [] E_c120 f_c120 = true := by decide +kernel
set_option maxRecDepth 1000000 in
theorem co_c120 : e2_okSB E_c120.length as_c120 f_c120 rs_c120 = true := by decide +kernel
theorem cs_c120 (hen : en_ok) (l : Launch) (hh : e2_hand_c l) : e2_smOk l 78 s_c120 := e2_con0 (H := 75) (n := 2) (C := evd_61) (S := S_c120) (I := I_c120) (fuel := 4000) [] hen ei_61 (e2_fa ((cs_c38 hen l hh).mono (by decide)) (e2_fa (cs_c113 hen l hh) e2_fz)) (e2_fa ein_19 (e2_fa ein_20 e2_fz)) (by decide) co_c120 ex2_61 ck_c120
/-! c121 X3_parseLevel -/
def as_c121 : List ev_V := [(2, 33, 0), (2, 14, 0), (0, 2, 0), (0, 6, 0)]
def E_c121 : e2_E := [(2147483648, 2147583648, 0, 0), (2147483652, 2147483668, 1, 0), (2147483648, 2147485248, 2, 0)]
noncomputable def f_c121 : ev_H := (cn655 : e2_Q8)
noncomputable def q_c121_0 : ev_H := (cn655 : e2_Q8)
noncomputable def rs_c121 : e2_Rs := [((11, 2147483648, 2147483649), q_c121_0)]
noncomputable def s_c121 : e2_Sm := (59, as_c121, E_c121, f_c121, rs_c121)
noncomputable def S_c121 : List e2_Sm := [s_c38, s_c119, s_c120]
noncomputable def I_c121 : List e2_In := [(19, 2, e2x_19), (20, 2, e2x_20), (60, 1, e2x_60)]
set_option maxRecDepth 1000000 in
theorem co_c121 : e2_okSB E_c121.length as_c121 f_c121 rs_c121 = true := by decide +kernel
def al_c121_0 : List ev_V := [(2, 33, 0), (2, 14, 0), (0, 2, 0), (0, 6, 0), (0, 1, 0), (1, 3, 4294967296), (9, 0, 0)]
def E_c121_0 : e2_E := [(2147483648, 2147583648, 0, 0), (2147483652, 2147483668, 1, 0), (2147483648, 2147485248, 2, 0), (2147483648, 2147483649, 3, 0)]
noncomputable def h_c121_0 : ev_H := (cn655 : e2_Q8)
noncomputable def cl_c121_e : List (Nat × e2_S) := [(66, e2_cutL (al_c121_0.set 5 (11, 2147483648, 2147483649)) 3 (E_c121_0.take 3) h_c121_0)]
set_option maxRecDepth 1000000 in
theorem ck_c121_e : e2_run (e2_cal S_c121 I_c121 4000 2) (e2_fin rs_c121) e2x_59 (e2_bpL cl_c121_e) (e2_cutA cl_c121_e) 4000 (e2_seek e2x_59 0) (e2_al 7 as_c121) [] E_c121 f_c121 = true := by decide +kernel
noncomputable def cl_c121_0 : List (Nat × e2_S) := [(66, e2_cutL (al_c121_0.set 5 (13, 11, 2147483649)) 3 (E_c121_0.take 3) h_c121_0)]
set_option maxRecDepth 1000000 in
theorem ck_c121_0 : e2_runM (e2_cal S_c121 I_c121 4000 2) (e2_fin rs_c121) e2x_59 (e2_bpL cl_c121_0) (e2_cutA cl_c121_0) 4000 (e2_seek e2x_59 66) al_c121_0 [] E_c121_0 h_c121_0 = true := by decide +kernel
set_option maxRecDepth 1000000 in
theorem ci_c121_0 : e2_idl 3 (al_c121_0.set 5 (9, 0, 0)) = true := by decide +kernel
set_option maxRecDepth 1000000 in
theorem cj_c121_0 : e2_idh 3 8 h_c121_0 = true := by decide +kernel
theorem cs_c121 (hen : en_ok) (l : Launch) (hh : e2_hand_c l) : e2_smOk l 94 s_c121 := by
  refine e2_conG (H := 91) (n := 2) (C := evd_59) (S := S_c121) (I := I_c121) (fuel := 4000) hen ei_59 (e2_fa ((cs_c38 hen l hh).mono (by decide)) (e2_fa (cs_c119 hen l hh) (e2_fa ((cs_c120 hen l hh).mono (by decide)) e2_fz))) (e2_fa ein_19 (e2_fa ein_20 (e2_fa ein_60 e2_fz))) (by decide) co_c121 fun M d _ hC hcall p e R s m args below meth c Q D cA A ads r0 ha hl0 => ?_
  have L_0 : e2_gdM M p l e R s m args below meth c Q D cA A ads r0 66 al_c121_0 [] E_c121_0 h_c121_0 := by
    refine e2_indL (u := 3) (j := 5) (lo := 2147483648) (hi := 2147483649) (b := 3) (dd := 0) hl0 (by decide) rfl rfl (Or.inr ⟨rfl, rfl⟩) rfl ci_c121_0 cj_c121_0 ?_
    intro r_0 k_0 hk_0 hp_0 hs_0 hn_0
    have hl_0 : r_0.length ≤ 4 := hs_0.len rfl
    have ha_0 := ha.ext hp_0
    exact e2_fromM hen ha_0 hcall (e2_cutA_ok (e2_fa (fun al st E h hc => hn_0 al st E h hc) e2_fz)) (hC []) (X := e2x_59) ex2_59 66 ck_c121_0
  have EN_0 := e2_entL (u := 3) (j := 5) (lo := 2147483648) (hi := 2147483649) hl0 rfl rfl rfl ci_c121_0 cj_c121_0 L_0
  exact e2_from hen ha hcall (e2_cutA_ok (e2_fa (fun al st E h hc => EN_0 al st E h hc) e2_fz)) (hC []) (X := e2x_59) ex2_59 0 ck_c121_e
/-! c122 X3_parseLevel -/
def as_c122 : List ev_V := [(2, 33, 0), (2, 14, 0), (0, 1, 0), (0, 6, 0)]
def E_c122 : e2_E := [(2147483648, 2147583648, 0, 0), (2147483652, 2147483668, 1, 0), (2147483648, 2147485248, 2, 0)]
noncomputable def f_c122 : ev_H := (cn655 : e2_Q8)
noncomputable def q_c122_0 : ev_H := (cn655 : e2_Q8)
noncomputable def rs_c122 : e2_Rs := [((11, 2147483648, 2147483649), q_c122_0)]
noncomputable def s_c122 : e2_Sm := (59, as_c122, E_c122, f_c122, rs_c122)
noncomputable def S_c122 : List e2_Sm := [s_c38, s_c121]
noncomputable def I_c122 : List e2_In := [(19, 2, e2x_19), (20, 2, e2x_20), (60, 1, e2x_60)]
set_option maxRecDepth 1000000 in
theorem co_c122 : e2_okSB E_c122.length as_c122 f_c122 rs_c122 = true := by decide +kernel
def al_c122_0 : List ev_V := [(2, 33, 0), (2, 14, 0), (0, 1, 0), (0, 6, 0), (0, 30, 0), (1, 3, 4294967296), (9, 0, 0)]
def E_c122_0 : e2_E := [(2147483648, 2147583648, 0, 0), (2147483652, 2147483668, 1, 0), (2147483648, 2147485248, 2, 0), (2147483648, 2147483678, 3, 0)]
noncomputable def h_c122_0 : ev_H := (cn655 : e2_Q8)
noncomputable def cl_c122_e : List (Nat × e2_S) := [(66, e2_cutL (al_c122_0.set 5 (11, 2147483648, 2147483678)) 3 (E_c122_0.take 3) h_c122_0)]
set_option maxRecDepth 1000000 in
theorem ck_c122_e : e2_run (e2_cal S_c122 I_c122 4000 2) (e2_fin rs_c122) e2x_59 (e2_bpL cl_c122_e) (e2_cutA cl_c122_e) 4000 (e2_seek e2x_59 0) (e2_al 7 as_c122) [] E_c122 f_c122 = true := by decide +kernel
noncomputable def cl_c122_0 : List (Nat × e2_S) := [(66, e2_cutL (al_c122_0.set 5 (13, 11, 2147483678)) 3 (E_c122_0.take 3) h_c122_0)]
set_option maxRecDepth 1000000 in
theorem ck_c122_0 : e2_runM (e2_cal S_c122 I_c122 4000 2) (e2_fin rs_c122) e2x_59 (e2_bpL cl_c122_0) (e2_cutA cl_c122_0) 4000 (e2_seek e2x_59 66) al_c122_0 [] E_c122_0 h_c122_0 = true := by decide +kernel
set_option maxRecDepth 1000000 in
theorem ci_c122_0 : e2_idl 3 (al_c122_0.set 5 (9, 0, 0)) = true := by decide +kernel
set_option maxRecDepth 1000000 in
theorem cj_c122_0 : e2_idh 3 8 h_c122_0 = true := by decide +kernel
theorem cs_c122 (hen : en_ok) (l : Launch) (hh : e2_hand_c l) : e2_smOk l 97 s_c122 := by
  refine e2_conG (H := 94) (n := 2) (C := evd_59) (S := S_c122) (I := I_c122) (fuel := 4000) hen ei_59 (e2_fa ((cs_c38 hen l hh).mono (by decide)) (e2_fa (cs_c121 hen l hh) e2_fz)) (e2_fa ein_19 (e2_fa ein_20 (e2_fa ein_60 e2_fz))) (by decide) co_c122 fun M d _ hC hcall p e R s m args below meth c Q D cA A ads r0 ha hl0 => ?_
  have L_0 : e2_gdM M p l e R s m args below meth c Q D cA A ads r0 66 al_c122_0 [] E_c122_0 h_c122_0 := by
    refine e2_indL (u := 3) (j := 5) (lo := 2147483648) (hi := 2147483678) (b := 3) (dd := 0) hl0 (by decide) rfl rfl (Or.inr ⟨rfl, rfl⟩) rfl ci_c122_0 cj_c122_0 ?_
    intro r_0 k_0 hk_0 hp_0 hs_0 hn_0
    have hl_0 : r_0.length ≤ 4 := hs_0.len rfl
    have ha_0 := ha.ext hp_0
    exact e2_fromM hen ha_0 hcall (e2_cutA_ok (e2_fa (fun al st E h hc => hn_0 al st E h hc) e2_fz)) (hC []) (X := e2x_59) ex2_59 66 ck_c122_0
  have EN_0 := e2_entL (u := 3) (j := 5) (lo := 2147483648) (hi := 2147483678) hl0 rfl rfl rfl ci_c122_0 cj_c122_0 L_0
  exact e2_from hen ha hcall (e2_cutA_ok (e2_fa (fun al st E h hc => EN_0 al st E h hc) e2_fz)) (hC []) (X := e2x_59) ex2_59 0 ck_c122_e
/-! c123 X3_parseLevel -/
def as_c123 : List ev_V := [(2, 33, 0), (2, 14, 0), (0, 0, 0), (0, 6, 0)]
def E_c123 : e2_E := [(2147483648, 2147583648, 0, 0), (2147483652, 2147483668, 1, 0), (2147483648, 2147485248, 2, 0)]
noncomputable def f_c123 : ev_H := (cn655 : e2_Q8)
noncomputable def q_c123_0 : ev_H := (cn655 : e2_Q8)
noncomputable def rs_c123 : e2_Rs := [((11, 2147483648, 2147483649), q_c123_0)]
noncomputable def s_c123 : e2_Sm := (59, as_c123, E_c123, f_c123, rs_c123)
noncomputable def S_c123 : List e2_Sm := [s_c38, s_c122]
noncomputable def I_c123 : List e2_In := [(19, 2, e2x_19), (20, 2, e2x_20), (60, 1, e2x_60)]
set_option maxRecDepth 1000000 in
theorem co_c123 : e2_okSB E_c123.length as_c123 f_c123 rs_c123 = true := by decide +kernel
def al_c123_0 : List ev_V := [(2, 33, 0), (2, 14, 0), (0, 0, 0), (0, 6, 0), (0, 30, 0), (1, 3, 4294967296), (9, 0, 0)]
def E_c123_0 : e2_E := [(2147483648, 2147583648, 0, 0), (2147483652, 2147483668, 1, 0), (2147483648, 2147485248, 2, 0), (2147483648, 2147483678, 3, 0)]
noncomputable def h_c123_0 : ev_H := (cn655 : e2_Q8)
noncomputable def cl_c123_e : List (Nat × e2_S) := [(66, e2_cutL (al_c123_0.set 5 (11, 2147483648, 2147483678)) 3 (E_c123_0.take 3) h_c123_0)]
set_option maxRecDepth 1000000 in
theorem ck_c123_e : e2_run (e2_cal S_c123 I_c123 4000 2) (e2_fin rs_c123) e2x_59 (e2_bpL cl_c123_e) (e2_cutA cl_c123_e) 4000 (e2_seek e2x_59 0) (e2_al 7 as_c123) [] E_c123 f_c123 = true := by decide +kernel
noncomputable def cl_c123_0 : List (Nat × e2_S) := [(66, e2_cutL (al_c123_0.set 5 (13, 11, 2147483678)) 3 (E_c123_0.take 3) h_c123_0)]
set_option maxRecDepth 1000000 in
theorem ck_c123_0 : e2_runM (e2_cal S_c123 I_c123 4000 2) (e2_fin rs_c123) e2x_59 (e2_bpL cl_c123_0) (e2_cutA cl_c123_0) 4000 (e2_seek e2x_59 66) al_c123_0 [] E_c123_0 h_c123_0 = true := by decide +kernel
set_option maxRecDepth 1000000 in
theorem ci_c123_0 : e2_idl 3 (al_c123_0.set 5 (9, 0, 0)) = true := by decide +kernel
set_option maxRecDepth 1000000 in
theorem cj_c123_0 : e2_idh 3 8 h_c123_0 = true := by decide +kernel
theorem cs_c123 (hen : en_ok) (l : Launch) (hh : e2_hand_c l) : e2_smOk l 100 s_c123 := by
  refine e2_conG (H := 97) (n := 2) (C := evd_59) (S := S_c123) (I := I_c123) (fuel := 4000) hen ei_59 (e2_fa ((cs_c38 hen l hh).mono (by decide)) (e2_fa (cs_c122 hen l hh) e2_fz)) (e2_fa ein_19 (e2_fa ein_20 (e2_fa ein_60 e2_fz))) (by decide) co_c123 fun M d _ hC hcall p e R s m args below meth c Q D cA A ads r0 ha hl0 => ?_
  have L_0 : e2_gdM M p l e R s m args below meth c Q D cA A ads r0 66 al_c123_0 [] E_c123_0 h_c123_0 := by
    refine e2_indL (u := 3) (j := 5) (lo := 2147483648) (hi := 2147483678) (b := 3) (dd := 0) hl0 (by decide) rfl rfl (Or.inr ⟨rfl, rfl⟩) rfl ci_c123_0 cj_c123_0 ?_
    intro r_0 k_0 hk_0 hp_0 hs_0 hn_0
    have hl_0 : r_0.length ≤ 4 := hs_0.len rfl
    have ha_0 := ha.ext hp_0
    exact e2_fromM hen ha_0 hcall (e2_cutA_ok (e2_fa (fun al st E h hc => hn_0 al st E h hc) e2_fz)) (hC []) (X := e2x_59) ex2_59 66 ck_c123_0
  have EN_0 := e2_entL (u := 3) (j := 5) (lo := 2147483648) (hi := 2147483678) hl0 rfl rfl rfl ci_c123_0 cj_c123_0 L_0
  exact e2_from hen ha hcall (e2_cutA_ok (e2_fa (fun al st E h hc => EN_0 al st E h hc) e2_fz)) (hC []) (X := e2x_59) ex2_59 0 ck_c123_e
/-! c124 X3_parseUnit -/
def as_c124 : List ev_V := [(2, 33, 0), (2, 14, 0), (0, 5, 0)]
def E_c124 : e2_E := [(2147483648, 2147583648, 0, 0), (2147483652, 2147483668, 1, 0), (2147483648, 2147485248, 2, 0)]
noncomputable def f_c124 : ev_H := (cn655 : e2_Q8)
noncomputable def q_c124_0 : ev_H := (cn655 : e2_Q8)
noncomputable def rs_c124 : e2_Rs := [((11, 2147483648, 2147483649), q_c124_0)]
noncomputable def s_c124 : e2_Sm := (62, as_c124, E_c124, f_c124, rs_c124)
noncomputable def S_c124 : List e2_Sm := [s_c38, s_c39, s_c123]
noncomputable def I_c124 : List e2_In := [(18, 2, e2x_18), (19, 2, e2x_19), (20, 2, e2x_20), (43, 2, e2x_43), (44, 3, e2x_44)]
set_option maxRecDepth 1000000 in
theorem ck_c124 : e2_run (e2_cal S_c124 I_c124 4000 2) (e2_fin rs_c124) e2x_62 (fun _ => false) (fun _ _ _ _ _ => false) 4000 (e2_seek e2x_62 0) (e2_al 7 as_c124) [] E_c124 f_c124 = true := by decide +kernel
set_option maxRecDepth 1000000 in
theorem co_c124 : e2_okSB E_c124.length as_c124 f_c124 rs_c124 = true := by decide +kernel
theorem cs_c124 (hen : en_ok) (l : Launch) (hh : e2_hand_c l) : e2_smOk l 103 s_c124 := e2_con0 (H := 100) (n := 2) (C := evd_62) (S := S_c124) (I := I_c124) (fuel := 4000) [] hen ei_62 (e2_fa ((cs_c38 hen l hh).mono (by decide)) (e2_fa ((cs_c39 hen l hh).mono (by decide)) (e2_fa (cs_c123 hen l hh) e2_fz))) (e2_fa ein_18 (e2_fa ein_19 (e2_fa ein_20 (e2_fa ein_43 (e2_fa ein_44 e2_fz))))) (by decide) co_c124 ex2_62 ck_c124
/-! c125 X3_parseLevel -/
def as_c125 : List ev_V := [(2, 33, 0), (2, 14, 0), (0, 5, 0), (0, 5, 0)]
def E_c125 : e2_E := [(2147483648, 2147583648, 0, 0), (2147483652, 2147483668, 1, 0), (2147483648, 2147485248, 2, 0)]
noncomputable def f_c125 : ev_H := (cn655 : e2_Q8)
noncomputable def q_c125_0 : ev_H := (cn655 : e2_Q8)
noncomputable def rs_c125 : e2_Rs := [((11, 2147483648, 2147483649), q_c125_0)]
noncomputable def s_c125 : e2_Sm := (59, as_c125, E_c125, f_c125, rs_c125)
noncomputable def S_c125 : List e2_Sm := [s_c124]
noncomputable def I_c125 : List e2_In := []
set_option maxRecDepth 1000000 in
theorem ck_c125 : e2_run (e2_cal S_c125 I_c125 4000 0) (e2_fin rs_c125) e2x_59 (fun _ => false) (fun _ _ _ _ _ => false) 4000 (e2_seek e2x_59 0) (e2_al 7 as_c125) [] E_c125 f_c125 = true := by decide +kernel
set_option maxRecDepth 1000000 in
theorem co_c125 : e2_okSB E_c125.length as_c125 f_c125 rs_c125 = true := by decide +kernel
theorem cs_c125 (hen : en_ok) (l : Launch) (hh : e2_hand_c l) : e2_smOk l 104 s_c125 := e2_con0 (H := 103) (n := 0) (C := evd_59) (S := S_c125) (I := I_c125) (fuel := 4000) [] hen ei_59 (e2_fa (cs_c124 hen l hh) e2_fz) e2_fz (by decide) co_c125 ex2_59 ck_c125
/-! c126 X3_parseLevel -/
def as_c126 : List ev_V := [(2, 33, 0), (2, 14, 0), (0, 4, 0), (0, 5, 0)]
def E_c126 : e2_E := [(2147483648, 2147583648, 0, 0), (2147483652, 2147483668, 1, 0), (2147483648, 2147485248, 2, 0)]
noncomputable def f_c126 : ev_H := (cn655 : e2_Q8)
noncomputable def q_c126_0 : ev_H := (cn655 : e2_Q8)
noncomputable def rs_c126 : e2_Rs := [((11, 2147483648, 2147483649), q_c126_0)]
noncomputable def s_c126 : e2_Sm := (59, as_c126, E_c126, f_c126, rs_c126)
noncomputable def S_c126 : List e2_Sm := [s_c38, s_c125]
noncomputable def I_c126 : List e2_In := [(19, 2, e2x_19), (20, 2, e2x_20), (60, 1, e2x_60)]
set_option maxRecDepth 1000000 in
theorem co_c126 : e2_okSB E_c126.length as_c126 f_c126 rs_c126 = true := by decide +kernel
def al_c126_0 : List ev_V := [(2, 33, 0), (2, 14, 0), (0, 4, 0), (0, 5, 0), (0, 30, 0), (1, 3, 4294967296), (9, 0, 0)]
def E_c126_0 : e2_E := [(2147483648, 2147583648, 0, 0), (2147483652, 2147483668, 1, 0), (2147483648, 2147485248, 2, 0), (2147483648, 2147483678, 3, 0)]
noncomputable def h_c126_0 : ev_H := (cn655 : e2_Q8)
noncomputable def cl_c126_e : List (Nat × e2_S) := [(66, e2_cutL (al_c126_0.set 5 (11, 2147483648, 2147483678)) 3 (E_c126_0.take 3) h_c126_0)]
set_option maxRecDepth 1000000 in
theorem ck_c126_e : e2_run (e2_cal S_c126 I_c126 4000 2) (e2_fin rs_c126) e2x_59 (e2_bpL cl_c126_e) (e2_cutA cl_c126_e) 4000 (e2_seek e2x_59 0) (e2_al 7 as_c126) [] E_c126 f_c126 = true := by decide +kernel
noncomputable def cl_c126_0 : List (Nat × e2_S) := [(66, e2_cutL (al_c126_0.set 5 (13, 11, 2147483678)) 3 (E_c126_0.take 3) h_c126_0)]
set_option maxRecDepth 1000000 in
theorem ck_c126_0 : e2_runM (e2_cal S_c126 I_c126 4000 2) (e2_fin rs_c126) e2x_59 (e2_bpL cl_c126_0) (e2_cutA cl_c126_0) 4000 (e2_seek e2x_59 66) al_c126_0 [] E_c126_0 h_c126_0 = true := by decide +kernel
set_option maxRecDepth 1000000 in
theorem ci_c126_0 : e2_idl 3 (al_c126_0.set 5 (9, 0, 0)) = true := by decide +kernel
set_option maxRecDepth 1000000 in
theorem cj_c126_0 : e2_idh 3 8 h_c126_0 = true := by decide +kernel
theorem cs_c126 (hen : en_ok) (l : Launch) (hh : e2_hand_c l) : e2_smOk l 107 s_c126 := by
  refine e2_conG (H := 104) (n := 2) (C := evd_59) (S := S_c126) (I := I_c126) (fuel := 4000) hen ei_59 (e2_fa ((cs_c38 hen l hh).mono (by decide)) (e2_fa (cs_c125 hen l hh) e2_fz)) (e2_fa ein_19 (e2_fa ein_20 (e2_fa ein_60 e2_fz))) (by decide) co_c126 fun M d _ hC hcall p e R s m args below meth c Q D cA A ads r0 ha hl0 => ?_
  have L_0 : e2_gdM M p l e R s m args below meth c Q D cA A ads r0 66 al_c126_0 [] E_c126_0 h_c126_0 := by
    refine e2_indL (u := 3) (j := 5) (lo := 2147483648) (hi := 2147483678) (b := 3) (dd := 0) hl0 (by decide) rfl rfl (Or.inr ⟨rfl, rfl⟩) rfl ci_c126_0 cj_c126_0 ?_
    intro r_0 k_0 hk_0 hp_0 hs_0 hn_0
    have hl_0 : r_0.length ≤ 4 := hs_0.len rfl
    have ha_0 := ha.ext hp_0
    exact e2_fromM hen ha_0 hcall (e2_cutA_ok (e2_fa (fun al st E h hc => hn_0 al st E h hc) e2_fz)) (hC []) (X := e2x_59) ex2_59 66 ck_c126_0
  have EN_0 := e2_entL (u := 3) (j := 5) (lo := 2147483648) (hi := 2147483678) hl0 rfl rfl rfl ci_c126_0 cj_c126_0 L_0
  exact e2_from hen ha hcall (e2_cutA_ok (e2_fa (fun al st E h hc => EN_0 al st E h hc) e2_fz)) (hC []) (X := e2x_59) ex2_59 0 ck_c126_e
/-! c127 X3_parseLevel -/
def as_c127 : List ev_V := [(2, 33, 0), (2, 14, 0), (0, 3, 0), (0, 5, 0)]
def E_c127 : e2_E := [(2147483648, 2147583648, 0, 0), (2147483652, 2147483668, 1, 0), (2147483648, 2147485248, 2, 0)]
noncomputable def f_c127 : ev_H := (cn655 : e2_Q8)
noncomputable def q_c127_0 : ev_H := (cn655 : e2_Q8)
noncomputable def rs_c127 : e2_Rs := [((11, 2147483648, 2147483649), q_c127_0)]
noncomputable def s_c127 : e2_Sm := (59, as_c127, E_c127, f_c127, rs_c127)
noncomputable def S_c127 : List e2_Sm := [s_c38, s_c126]
noncomputable def I_c127 : List e2_In := [(19, 2, e2x_19), (20, 2, e2x_20), (60, 1, e2x_60)]
set_option maxRecDepth 1000000 in
theorem co_c127 : e2_okSB E_c127.length as_c127 f_c127 rs_c127 = true := by decide +kernel
def al_c127_0 : List ev_V := [(2, 33, 0), (2, 14, 0), (0, 3, 0), (0, 5, 0), (0, 30, 0), (1, 3, 4294967296), (9, 0, 0)]
def E_c127_0 : e2_E := [(2147483648, 2147583648, 0, 0), (2147483652, 2147483668, 1, 0), (2147483648, 2147485248, 2, 0), (2147483648, 2147483678, 3, 0)]
noncomputable def h_c127_0 : ev_H := (cn655 : e2_Q8)
noncomputable def cl_c127_e : List (Nat × e2_S) := [(66, e2_cutL (al_c127_0.set 5 (11, 2147483648, 2147483678)) 3 (E_c127_0.take 3) h_c127_0)]
set_option maxRecDepth 1000000 in
theorem ck_c127_e : e2_run (e2_cal S_c127 I_c127 4000 2) (e2_fin rs_c127) e2x_59 (e2_bpL cl_c127_e) (e2_cutA cl_c127_e) 4000 (e2_seek e2x_59 0) (e2_al 7 as_c127) [] E_c127 f_c127 = true := by decide +kernel
noncomputable def cl_c127_0 : List (Nat × e2_S) := [(66, e2_cutL (al_c127_0.set 5 (13, 11, 2147483678)) 3 (E_c127_0.take 3) h_c127_0)]
set_option maxRecDepth 1000000 in
theorem ck_c127_0 : e2_runM (e2_cal S_c127 I_c127 4000 2) (e2_fin rs_c127) e2x_59 (e2_bpL cl_c127_0) (e2_cutA cl_c127_0) 4000 (e2_seek e2x_59 66) al_c127_0 [] E_c127_0 h_c127_0 = true := by decide +kernel
set_option maxRecDepth 1000000 in
theorem ci_c127_0 : e2_idl 3 (al_c127_0.set 5 (9, 0, 0)) = true := by decide +kernel
set_option maxRecDepth 1000000 in
theorem cj_c127_0 : e2_idh 3 8 h_c127_0 = true := by decide +kernel
theorem cs_c127 (hen : en_ok) (l : Launch) (hh : e2_hand_c l) : e2_smOk l 110 s_c127 := by
  refine e2_conG (H := 107) (n := 2) (C := evd_59) (S := S_c127) (I := I_c127) (fuel := 4000) hen ei_59 (e2_fa ((cs_c38 hen l hh).mono (by decide)) (e2_fa (cs_c126 hen l hh) e2_fz)) (e2_fa ein_19 (e2_fa ein_20 (e2_fa ein_60 e2_fz))) (by decide) co_c127 fun M d _ hC hcall p e R s m args below meth c Q D cA A ads r0 ha hl0 => ?_
  have L_0 : e2_gdM M p l e R s m args below meth c Q D cA A ads r0 66 al_c127_0 [] E_c127_0 h_c127_0 := by
    refine e2_indL (u := 3) (j := 5) (lo := 2147483648) (hi := 2147483678) (b := 3) (dd := 0) hl0 (by decide) rfl rfl (Or.inr ⟨rfl, rfl⟩) rfl ci_c127_0 cj_c127_0 ?_
    intro r_0 k_0 hk_0 hp_0 hs_0 hn_0
    have hl_0 : r_0.length ≤ 4 := hs_0.len rfl
    have ha_0 := ha.ext hp_0
    exact e2_fromM hen ha_0 hcall (e2_cutA_ok (e2_fa (fun al st E h hc => hn_0 al st E h hc) e2_fz)) (hC []) (X := e2x_59) ex2_59 66 ck_c127_0
  have EN_0 := e2_entL (u := 3) (j := 5) (lo := 2147483648) (hi := 2147483678) hl0 rfl rfl rfl ci_c127_0 cj_c127_0 L_0
  exact e2_from hen ha hcall (e2_cutA_ok (e2_fa (fun al st E h hc => EN_0 al st E h hc) e2_fz)) (hC []) (X := e2x_59) ex2_59 0 ck_c127_e
/-! c128 X3_parseNot -/
def as_c128 : List ev_V := [(2, 33, 0), (2, 14, 0), (0, 5, 0)]
def E_c128 : e2_E := [(2147483648, 2147583648, 0, 0), (2147483652, 2147483668, 1, 0), (2147483648, 2147485248, 2, 0)]
noncomputable def f_c128 : ev_H := (cn655 : e2_Q8)
noncomputable def q_c128_0 : ev_H := (cn655 : e2_Q8)
noncomputable def rs_c128 : e2_Rs := [((11, 2147483648, 2147483649), q_c128_0)]
noncomputable def s_c128 : e2_Sm := (61, as_c128, E_c128, f_c128, rs_c128)
noncomputable def S_c128 : List e2_Sm := [s_c38, s_c121]
noncomputable def I_c128 : List e2_In := [(19, 2, e2x_19), (20, 2, e2x_20)]
set_option maxRecDepth 1000000 in
theorem ck_c128 : e2_run (e2_cal S_c128 I_c128 4000 2) (e2_fin rs_c128) e2x_61 (fun _ => false) (fun _ _ _ _ _ => false) 4000 (e2_seek e2x_61 0) (e2_al 3 as_c128) [] E_c128 f_c128 = true := by decide +kernel
set_option maxRecDepth 1000000 in
theorem co_c128 : e2_okSB E_c128.length as_c128 f_c128 rs_c128 = true := by decide +kernel
theorem cs_c128 (hen : en_ok) (l : Launch) (hh : e2_hand_c l) : e2_smOk l 97 s_c128 := e2_con0 (H := 94) (n := 2) (C := evd_61) (S := S_c128) (I := I_c128) (fuel := 4000) [] hen ei_61 (e2_fa ((cs_c38 hen l hh).mono (by decide)) (e2_fa (cs_c121 hen l hh) e2_fz)) (e2_fa ein_19 (e2_fa ein_20 e2_fz)) (by decide) co_c128 ex2_61 ck_c128
/-! c129 X3_parseLevel -/
def as_c129 : List ev_V := [(2, 33, 0), (2, 14, 0), (0, 2, 0), (0, 5, 0)]
def E_c129 : e2_E := [(2147483648, 2147583648, 0, 0), (2147483652, 2147483668, 1, 0), (2147483648, 2147485248, 2, 0)]
noncomputable def f_c129 : ev_H := (cn655 : e2_Q8)
noncomputable def q_c129_0 : ev_H := (cn655 : e2_Q8)
noncomputable def rs_c129 : e2_Rs := [((11, 2147483648, 2147483649), q_c129_0)]
noncomputable def s_c129 : e2_Sm := (59, as_c129, E_c129, f_c129, rs_c129)
noncomputable def S_c129 : List e2_Sm := [s_c38, s_c127, s_c128]
noncomputable def I_c129 : List e2_In := [(19, 2, e2x_19), (20, 2, e2x_20), (60, 1, e2x_60)]
set_option maxRecDepth 1000000 in
theorem co_c129 : e2_okSB E_c129.length as_c129 f_c129 rs_c129 = true := by decide +kernel
def al_c129_0 : List ev_V := [(2, 33, 0), (2, 14, 0), (0, 2, 0), (0, 5, 0), (0, 1, 0), (1, 3, 4294967296), (9, 0, 0)]
def E_c129_0 : e2_E := [(2147483648, 2147583648, 0, 0), (2147483652, 2147483668, 1, 0), (2147483648, 2147485248, 2, 0), (2147483648, 2147483649, 3, 0)]
noncomputable def h_c129_0 : ev_H := (cn655 : e2_Q8)
noncomputable def cl_c129_e : List (Nat × e2_S) := [(66, e2_cutL (al_c129_0.set 5 (11, 2147483648, 2147483649)) 3 (E_c129_0.take 3) h_c129_0)]
set_option maxRecDepth 1000000 in
theorem ck_c129_e : e2_run (e2_cal S_c129 I_c129 4000 2) (e2_fin rs_c129) e2x_59 (e2_bpL cl_c129_e) (e2_cutA cl_c129_e) 4000 (e2_seek e2x_59 0) (e2_al 7 as_c129) [] E_c129 f_c129 = true := by decide +kernel
noncomputable def cl_c129_0 : List (Nat × e2_S) := [(66, e2_cutL (al_c129_0.set 5 (13, 11, 2147483649)) 3 (E_c129_0.take 3) h_c129_0)]
set_option maxRecDepth 1000000 in
theorem ck_c129_0 : e2_runM (e2_cal S_c129 I_c129 4000 2) (e2_fin rs_c129) e2x_59 (e2_bpL cl_c129_0) (e2_cutA cl_c129_0) 4000 (e2_seek e2x_59 66) al_c129_0 [] E_c129_0 h_c129_0 = true := by decide +kernel
set_option maxRecDepth 1000000 in
theorem ci_c129_0 : e2_idl 3 (al_c129_0.set 5 (9, 0, 0)) = true := by decide +kernel
set_option maxRecDepth 1000000 in
theorem cj_c129_0 : e2_idh 3 8 h_c129_0 = true := by decide +kernel
theorem cs_c129 (hen : en_ok) (l : Launch) (hh : e2_hand_c l) : e2_smOk l 113 s_c129 := by
  refine e2_conG (H := 110) (n := 2) (C := evd_59) (S := S_c129) (I := I_c129) (fuel := 4000) hen ei_59 (e2_fa ((cs_c38 hen l hh).mono (by decide)) (e2_fa (cs_c127 hen l hh) (e2_fa ((cs_c128 hen l hh).mono (by decide)) e2_fz))) (e2_fa ein_19 (e2_fa ein_20 (e2_fa ein_60 e2_fz))) (by decide) co_c129 fun M d _ hC hcall p e R s m args below meth c Q D cA A ads r0 ha hl0 => ?_
  have L_0 : e2_gdM M p l e R s m args below meth c Q D cA A ads r0 66 al_c129_0 [] E_c129_0 h_c129_0 := by
    refine e2_indL (u := 3) (j := 5) (lo := 2147483648) (hi := 2147483649) (b := 3) (dd := 0) hl0 (by decide) rfl rfl (Or.inr ⟨rfl, rfl⟩) rfl ci_c129_0 cj_c129_0 ?_
    intro r_0 k_0 hk_0 hp_0 hs_0 hn_0
    have hl_0 : r_0.length ≤ 4 := hs_0.len rfl
    have ha_0 := ha.ext hp_0
    exact e2_fromM hen ha_0 hcall (e2_cutA_ok (e2_fa (fun al st E h hc => hn_0 al st E h hc) e2_fz)) (hC []) (X := e2x_59) ex2_59 66 ck_c129_0
  have EN_0 := e2_entL (u := 3) (j := 5) (lo := 2147483648) (hi := 2147483649) hl0 rfl rfl rfl ci_c129_0 cj_c129_0 L_0
  exact e2_from hen ha hcall (e2_cutA_ok (e2_fa (fun al st E h hc => EN_0 al st E h hc) e2_fz)) (hC []) (X := e2x_59) ex2_59 0 ck_c129_e
/-! c130 X3_parseLevel -/
def as_c130 : List ev_V := [(2, 33, 0), (2, 14, 0), (0, 1, 0), (0, 5, 0)]
def E_c130 : e2_E := [(2147483648, 2147583648, 0, 0), (2147483652, 2147483668, 1, 0), (2147483648, 2147485248, 2, 0)]
noncomputable def f_c130 : ev_H := (cn655 : e2_Q8)
noncomputable def q_c130_0 : ev_H := (cn655 : e2_Q8)
noncomputable def rs_c130 : e2_Rs := [((11, 2147483648, 2147483649), q_c130_0)]
noncomputable def s_c130 : e2_Sm := (59, as_c130, E_c130, f_c130, rs_c130)
noncomputable def S_c130 : List e2_Sm := [s_c38, s_c129]
noncomputable def I_c130 : List e2_In := [(19, 2, e2x_19), (20, 2, e2x_20), (60, 1, e2x_60)]
set_option maxRecDepth 1000000 in
theorem co_c130 : e2_okSB E_c130.length as_c130 f_c130 rs_c130 = true := by decide +kernel
def al_c130_0 : List ev_V := [(2, 33, 0), (2, 14, 0), (0, 1, 0), (0, 5, 0), (0, 30, 0), (1, 3, 4294967296), (9, 0, 0)]
def E_c130_0 : e2_E := [(2147483648, 2147583648, 0, 0), (2147483652, 2147483668, 1, 0), (2147483648, 2147485248, 2, 0), (2147483648, 2147483678, 3, 0)]
noncomputable def h_c130_0 : ev_H := (cn655 : e2_Q8)
noncomputable def cl_c130_e : List (Nat × e2_S) := [(66, e2_cutL (al_c130_0.set 5 (11, 2147483648, 2147483678)) 3 (E_c130_0.take 3) h_c130_0)]
set_option maxRecDepth 1000000 in
theorem ck_c130_e : e2_run (e2_cal S_c130 I_c130 4000 2) (e2_fin rs_c130) e2x_59 (e2_bpL cl_c130_e) (e2_cutA cl_c130_e) 4000 (e2_seek e2x_59 0) (e2_al 7 as_c130) [] E_c130 f_c130 = true := by decide +kernel
noncomputable def cl_c130_0 : List (Nat × e2_S) := [(66, e2_cutL (al_c130_0.set 5 (13, 11, 2147483678)) 3 (E_c130_0.take 3) h_c130_0)]
set_option maxRecDepth 1000000 in
theorem ck_c130_0 : e2_runM (e2_cal S_c130 I_c130 4000 2) (e2_fin rs_c130) e2x_59 (e2_bpL cl_c130_0) (e2_cutA cl_c130_0) 4000 (e2_seek e2x_59 66) al_c130_0 [] E_c130_0 h_c130_0 = true := by decide +kernel
set_option maxRecDepth 1000000 in
theorem ci_c130_0 : e2_idl 3 (al_c130_0.set 5 (9, 0, 0)) = true := by decide +kernel
set_option maxRecDepth 1000000 in
theorem cj_c130_0 : e2_idh 3 8 h_c130_0 = true := by decide +kernel
theorem cs_c130 (hen : en_ok) (l : Launch) (hh : e2_hand_c l) : e2_smOk l 116 s_c130 := by
  refine e2_conG (H := 113) (n := 2) (C := evd_59) (S := S_c130) (I := I_c130) (fuel := 4000) hen ei_59 (e2_fa ((cs_c38 hen l hh).mono (by decide)) (e2_fa (cs_c129 hen l hh) e2_fz)) (e2_fa ein_19 (e2_fa ein_20 (e2_fa ein_60 e2_fz))) (by decide) co_c130 fun M d _ hC hcall p e R s m args below meth c Q D cA A ads r0 ha hl0 => ?_
  have L_0 : e2_gdM M p l e R s m args below meth c Q D cA A ads r0 66 al_c130_0 [] E_c130_0 h_c130_0 := by
    refine e2_indL (u := 3) (j := 5) (lo := 2147483648) (hi := 2147483678) (b := 3) (dd := 0) hl0 (by decide) rfl rfl (Or.inr ⟨rfl, rfl⟩) rfl ci_c130_0 cj_c130_0 ?_
    intro r_0 k_0 hk_0 hp_0 hs_0 hn_0
    have hl_0 : r_0.length ≤ 4 := hs_0.len rfl
    have ha_0 := ha.ext hp_0
    exact e2_fromM hen ha_0 hcall (e2_cutA_ok (e2_fa (fun al st E h hc => hn_0 al st E h hc) e2_fz)) (hC []) (X := e2x_59) ex2_59 66 ck_c130_0
  have EN_0 := e2_entL (u := 3) (j := 5) (lo := 2147483648) (hi := 2147483678) hl0 rfl rfl rfl ci_c130_0 cj_c130_0 L_0
  exact e2_from hen ha hcall (e2_cutA_ok (e2_fa (fun al st E h hc => EN_0 al st E h hc) e2_fz)) (hC []) (X := e2x_59) ex2_59 0 ck_c130_e
/-! c131 X3_parseLevel -/
def as_c131 : List ev_V := [(2, 33, 0), (2, 14, 0), (0, 0, 0), (0, 5, 0)]
def E_c131 : e2_E := [(2147483648, 2147583648, 0, 0), (2147483652, 2147483668, 1, 0), (2147483648, 2147485248, 2, 0)]
noncomputable def f_c131 : ev_H := (cn655 : e2_Q8)
noncomputable def q_c131_0 : ev_H := (cn655 : e2_Q8)
noncomputable def rs_c131 : e2_Rs := [((11, 2147483648, 2147483649), q_c131_0)]
noncomputable def s_c131 : e2_Sm := (59, as_c131, E_c131, f_c131, rs_c131)
noncomputable def S_c131 : List e2_Sm := [s_c38, s_c130]
noncomputable def I_c131 : List e2_In := [(19, 2, e2x_19), (20, 2, e2x_20), (60, 1, e2x_60)]
set_option maxRecDepth 1000000 in
theorem co_c131 : e2_okSB E_c131.length as_c131 f_c131 rs_c131 = true := by decide +kernel
def al_c131_0 : List ev_V := [(2, 33, 0), (2, 14, 0), (0, 0, 0), (0, 5, 0), (0, 30, 0), (1, 3, 4294967296), (9, 0, 0)]
def E_c131_0 : e2_E := [(2147483648, 2147583648, 0, 0), (2147483652, 2147483668, 1, 0), (2147483648, 2147485248, 2, 0), (2147483648, 2147483678, 3, 0)]
noncomputable def h_c131_0 : ev_H := (cn655 : e2_Q8)
noncomputable def cl_c131_e : List (Nat × e2_S) := [(66, e2_cutL (al_c131_0.set 5 (11, 2147483648, 2147483678)) 3 (E_c131_0.take 3) h_c131_0)]
set_option maxRecDepth 1000000 in
theorem ck_c131_e : e2_run (e2_cal S_c131 I_c131 4000 2) (e2_fin rs_c131) e2x_59 (e2_bpL cl_c131_e) (e2_cutA cl_c131_e) 4000 (e2_seek e2x_59 0) (e2_al 7 as_c131) [] E_c131 f_c131 = true := by decide +kernel
noncomputable def cl_c131_0 : List (Nat × e2_S) := [(66, e2_cutL (al_c131_0.set 5 (13, 11, 2147483678)) 3 (E_c131_0.take 3) h_c131_0)]
set_option maxRecDepth 1000000 in
theorem ck_c131_0 : e2_runM (e2_cal S_c131 I_c131 4000 2) (e2_fin rs_c131) e2x_59 (e2_bpL cl_c131_0) (e2_cutA cl_c131_0) 4000 (e2_seek e2x_59 66) al_c131_0 [] E_c131_0 h_c131_0 = true := by decide +kernel
set_option maxRecDepth 1000000 in
theorem ci_c131_0 : e2_idl 3 (al_c131_0.set 5 (9, 0, 0)) = true := by decide +kernel
set_option maxRecDepth 1000000 in
theorem cj_c131_0 : e2_idh 3 8 h_c131_0 = true := by decide +kernel
theorem cs_c131 (hen : en_ok) (l : Launch) (hh : e2_hand_c l) : e2_smOk l 119 s_c131 := by
  refine e2_conG (H := 116) (n := 2) (C := evd_59) (S := S_c131) (I := I_c131) (fuel := 4000) hen ei_59 (e2_fa ((cs_c38 hen l hh).mono (by decide)) (e2_fa (cs_c130 hen l hh) e2_fz)) (e2_fa ein_19 (e2_fa ein_20 (e2_fa ein_60 e2_fz))) (by decide) co_c131 fun M d _ hC hcall p e R s m args below meth c Q D cA A ads r0 ha hl0 => ?_
  have L_0 : e2_gdM M p l e R s m args below meth c Q D cA A ads r0 66 al_c131_0 [] E_c131_0 h_c131_0 := by
    refine e2_indL (u := 3) (j := 5) (lo := 2147483648) (hi := 2147483678) (b := 3) (dd := 0) hl0 (by decide) rfl rfl (Or.inr ⟨rfl, rfl⟩) rfl ci_c131_0 cj_c131_0 ?_
    intro r_0 k_0 hk_0 hp_0 hs_0 hn_0
    have hl_0 : r_0.length ≤ 4 := hs_0.len rfl
    have ha_0 := ha.ext hp_0
    exact e2_fromM hen ha_0 hcall (e2_cutA_ok (e2_fa (fun al st E h hc => hn_0 al st E h hc) e2_fz)) (hC []) (X := e2x_59) ex2_59 66 ck_c131_0
  have EN_0 := e2_entL (u := 3) (j := 5) (lo := 2147483648) (hi := 2147483678) hl0 rfl rfl rfl ci_c131_0 cj_c131_0 L_0
  exact e2_from hen ha hcall (e2_cutA_ok (e2_fa (fun al st E h hc => EN_0 al st E h hc) e2_fz)) (hC []) (X := e2x_59) ex2_59 0 ck_c131_e
/-! c132 X3_parseUnit -/
def as_c132 : List ev_V := [(2, 33, 0), (2, 14, 0), (0, 4, 0)]
def E_c132 : e2_E := [(2147483648, 2147583648, 0, 0), (2147483652, 2147483668, 1, 0), (2147483648, 2147485248, 2, 0)]
noncomputable def f_c132 : ev_H := (cn655 : e2_Q8)
noncomputable def q_c132_0 : ev_H := (cn655 : e2_Q8)
noncomputable def rs_c132 : e2_Rs := [((11, 2147483648, 2147483649), q_c132_0)]
noncomputable def s_c132 : e2_Sm := (62, as_c132, E_c132, f_c132, rs_c132)
noncomputable def S_c132 : List e2_Sm := [s_c38, s_c39, s_c131]
noncomputable def I_c132 : List e2_In := [(18, 2, e2x_18), (19, 2, e2x_19), (20, 2, e2x_20), (43, 2, e2x_43), (44, 3, e2x_44)]
set_option maxRecDepth 1000000 in
theorem ck_c132 : e2_run (e2_cal S_c132 I_c132 4000 2) (e2_fin rs_c132) e2x_62 (fun _ => false) (fun _ _ _ _ _ => false) 4000 (e2_seek e2x_62 0) (e2_al 7 as_c132) [] E_c132 f_c132 = true := by decide +kernel
set_option maxRecDepth 1000000 in
theorem co_c132 : e2_okSB E_c132.length as_c132 f_c132 rs_c132 = true := by decide +kernel
theorem cs_c132 (hen : en_ok) (l : Launch) (hh : e2_hand_c l) : e2_smOk l 122 s_c132 := e2_con0 (H := 119) (n := 2) (C := evd_62) (S := S_c132) (I := I_c132) (fuel := 4000) [] hen ei_62 (e2_fa ((cs_c38 hen l hh).mono (by decide)) (e2_fa ((cs_c39 hen l hh).mono (by decide)) (e2_fa (cs_c131 hen l hh) e2_fz))) (e2_fa ein_18 (e2_fa ein_19 (e2_fa ein_20 (e2_fa ein_43 (e2_fa ein_44 e2_fz))))) (by decide) co_c132 ex2_62 ck_c132
/-! c133 X3_parseLevel -/
def as_c133 : List ev_V := [(2, 33, 0), (2, 14, 0), (0, 5, 0), (0, 4, 0)]
def E_c133 : e2_E := [(2147483648, 2147583648, 0, 0), (2147483652, 2147483668, 1, 0), (2147483648, 2147485248, 2, 0)]
noncomputable def f_c133 : ev_H := (cn655 : e2_Q8)
noncomputable def q_c133_0 : ev_H := (cn655 : e2_Q8)
noncomputable def rs_c133 : e2_Rs := [((11, 2147483648, 2147483649), q_c133_0)]
noncomputable def s_c133 : e2_Sm := (59, as_c133, E_c133, f_c133, rs_c133)
noncomputable def S_c133 : List e2_Sm := [s_c132]
noncomputable def I_c133 : List e2_In := []
set_option maxRecDepth 1000000 in
theorem ck_c133 : e2_run (e2_cal S_c133 I_c133 4000 0) (e2_fin rs_c133) e2x_59 (fun _ => false) (fun _ _ _ _ _ => false) 4000 (e2_seek e2x_59 0) (e2_al 7 as_c133) [] E_c133 f_c133 = true := by decide +kernel
set_option maxRecDepth 1000000 in
theorem co_c133 : e2_okSB E_c133.length as_c133 f_c133 rs_c133 = true := by decide +kernel
theorem cs_c133 (hen : en_ok) (l : Launch) (hh : e2_hand_c l) : e2_smOk l 123 s_c133 := e2_con0 (H := 122) (n := 0) (C := evd_59) (S := S_c133) (I := I_c133) (fuel := 4000) [] hen ei_59 (e2_fa (cs_c132 hen l hh) e2_fz) e2_fz (by decide) co_c133 ex2_59 ck_c133
/-! c134 X3_parseLevel -/
def as_c134 : List ev_V := [(2, 33, 0), (2, 14, 0), (0, 4, 0), (0, 4, 0)]
def E_c134 : e2_E := [(2147483648, 2147583648, 0, 0), (2147483652, 2147483668, 1, 0), (2147483648, 2147485248, 2, 0)]
noncomputable def f_c134 : ev_H := (cn655 : e2_Q8)
noncomputable def q_c134_0 : ev_H := (cn655 : e2_Q8)
noncomputable def rs_c134 : e2_Rs := [((11, 2147483648, 2147483649), q_c134_0)]
noncomputable def s_c134 : e2_Sm := (59, as_c134, E_c134, f_c134, rs_c134)
noncomputable def S_c134 : List e2_Sm := [s_c38, s_c133]
noncomputable def I_c134 : List e2_In := [(19, 2, e2x_19), (20, 2, e2x_20), (60, 1, e2x_60)]
set_option maxRecDepth 1000000 in
theorem co_c134 : e2_okSB E_c134.length as_c134 f_c134 rs_c134 = true := by decide +kernel
def al_c134_0 : List ev_V := [(2, 33, 0), (2, 14, 0), (0, 4, 0), (0, 4, 0), (0, 30, 0), (1, 3, 4294967296), (9, 0, 0)]
def E_c134_0 : e2_E := [(2147483648, 2147583648, 0, 0), (2147483652, 2147483668, 1, 0), (2147483648, 2147485248, 2, 0), (2147483648, 2147483678, 3, 0)]
noncomputable def h_c134_0 : ev_H := (cn655 : e2_Q8)
noncomputable def cl_c134_e : List (Nat × e2_S) := [(66, e2_cutL (al_c134_0.set 5 (11, 2147483648, 2147483678)) 3 (E_c134_0.take 3) h_c134_0)]
set_option maxRecDepth 1000000 in
theorem ck_c134_e : e2_run (e2_cal S_c134 I_c134 4000 2) (e2_fin rs_c134) e2x_59 (e2_bpL cl_c134_e) (e2_cutA cl_c134_e) 4000 (e2_seek e2x_59 0) (e2_al 7 as_c134) [] E_c134 f_c134 = true := by decide +kernel
noncomputable def cl_c134_0 : List (Nat × e2_S) := [(66, e2_cutL (al_c134_0.set 5 (13, 11, 2147483678)) 3 (E_c134_0.take 3) h_c134_0)]
set_option maxRecDepth 1000000 in
theorem ck_c134_0 : e2_runM (e2_cal S_c134 I_c134 4000 2) (e2_fin rs_c134) e2x_59 (e2_bpL cl_c134_0) (e2_cutA cl_c134_0) 4000 (e2_seek e2x_59 66) al_c134_0 [] E_c134_0 h_c134_0 = true := by decide +kernel
set_option maxRecDepth 1000000 in
theorem ci_c134_0 : e2_idl 3 (al_c134_0.set 5 (9, 0, 0)) = true := by decide +kernel
set_option maxRecDepth 1000000 in
theorem cj_c134_0 : e2_idh 3 8 h_c134_0 = true := by decide +kernel
theorem cs_c134 (hen : en_ok) (l : Launch) (hh : e2_hand_c l) : e2_smOk l 126 s_c134 := by
  refine e2_conG (H := 123) (n := 2) (C := evd_59) (S := S_c134) (I := I_c134) (fuel := 4000) hen ei_59 (e2_fa ((cs_c38 hen l hh).mono (by decide)) (e2_fa (cs_c133 hen l hh) e2_fz)) (e2_fa ein_19 (e2_fa ein_20 (e2_fa ein_60 e2_fz))) (by decide) co_c134 fun M d _ hC hcall p e R s m args below meth c Q D cA A ads r0 ha hl0 => ?_
  have L_0 : e2_gdM M p l e R s m args below meth c Q D cA A ads r0 66 al_c134_0 [] E_c134_0 h_c134_0 := by
    refine e2_indL (u := 3) (j := 5) (lo := 2147483648) (hi := 2147483678) (b := 3) (dd := 0) hl0 (by decide) rfl rfl (Or.inr ⟨rfl, rfl⟩) rfl ci_c134_0 cj_c134_0 ?_
    intro r_0 k_0 hk_0 hp_0 hs_0 hn_0
    have hl_0 : r_0.length ≤ 4 := hs_0.len rfl
    have ha_0 := ha.ext hp_0
    exact e2_fromM hen ha_0 hcall (e2_cutA_ok (e2_fa (fun al st E h hc => hn_0 al st E h hc) e2_fz)) (hC []) (X := e2x_59) ex2_59 66 ck_c134_0
  have EN_0 := e2_entL (u := 3) (j := 5) (lo := 2147483648) (hi := 2147483678) hl0 rfl rfl rfl ci_c134_0 cj_c134_0 L_0
  exact e2_from hen ha hcall (e2_cutA_ok (e2_fa (fun al st E h hc => EN_0 al st E h hc) e2_fz)) (hC []) (X := e2x_59) ex2_59 0 ck_c134_e
/-! c135 X3_parseLevel -/
def as_c135 : List ev_V := [(2, 33, 0), (2, 14, 0), (0, 3, 0), (0, 4, 0)]
def E_c135 : e2_E := [(2147483648, 2147583648, 0, 0), (2147483652, 2147483668, 1, 0), (2147483648, 2147485248, 2, 0)]
noncomputable def f_c135 : ev_H := (cn655 : e2_Q8)
noncomputable def q_c135_0 : ev_H := (cn655 : e2_Q8)
noncomputable def rs_c135 : e2_Rs := [((11, 2147483648, 2147483649), q_c135_0)]
noncomputable def s_c135 : e2_Sm := (59, as_c135, E_c135, f_c135, rs_c135)
noncomputable def S_c135 : List e2_Sm := [s_c38, s_c134]
noncomputable def I_c135 : List e2_In := [(19, 2, e2x_19), (20, 2, e2x_20), (60, 1, e2x_60)]
set_option maxRecDepth 1000000 in
theorem co_c135 : e2_okSB E_c135.length as_c135 f_c135 rs_c135 = true := by decide +kernel
def al_c135_0 : List ev_V := [(2, 33, 0), (2, 14, 0), (0, 3, 0), (0, 4, 0), (0, 30, 0), (1, 3, 4294967296), (9, 0, 0)]
def E_c135_0 : e2_E := [(2147483648, 2147583648, 0, 0), (2147483652, 2147483668, 1, 0), (2147483648, 2147485248, 2, 0), (2147483648, 2147483678, 3, 0)]
noncomputable def h_c135_0 : ev_H := (cn655 : e2_Q8)
noncomputable def cl_c135_e : List (Nat × e2_S) := [(66, e2_cutL (al_c135_0.set 5 (11, 2147483648, 2147483678)) 3 (E_c135_0.take 3) h_c135_0)]
set_option maxRecDepth 1000000 in
theorem ck_c135_e : e2_run (e2_cal S_c135 I_c135 4000 2) (e2_fin rs_c135) e2x_59 (e2_bpL cl_c135_e) (e2_cutA cl_c135_e) 4000 (e2_seek e2x_59 0) (e2_al 7 as_c135) [] E_c135 f_c135 = true := by decide +kernel
noncomputable def cl_c135_0 : List (Nat × e2_S) := [(66, e2_cutL (al_c135_0.set 5 (13, 11, 2147483678)) 3 (E_c135_0.take 3) h_c135_0)]
set_option maxRecDepth 1000000 in
theorem ck_c135_0 : e2_runM (e2_cal S_c135 I_c135 4000 2) (e2_fin rs_c135) e2x_59 (e2_bpL cl_c135_0) (e2_cutA cl_c135_0) 4000 (e2_seek e2x_59 66) al_c135_0 [] E_c135_0 h_c135_0 = true := by decide +kernel
set_option maxRecDepth 1000000 in
theorem ci_c135_0 : e2_idl 3 (al_c135_0.set 5 (9, 0, 0)) = true := by decide +kernel
set_option maxRecDepth 1000000 in
theorem cj_c135_0 : e2_idh 3 8 h_c135_0 = true := by decide +kernel
theorem cs_c135 (hen : en_ok) (l : Launch) (hh : e2_hand_c l) : e2_smOk l 129 s_c135 := by
  refine e2_conG (H := 126) (n := 2) (C := evd_59) (S := S_c135) (I := I_c135) (fuel := 4000) hen ei_59 (e2_fa ((cs_c38 hen l hh).mono (by decide)) (e2_fa (cs_c134 hen l hh) e2_fz)) (e2_fa ein_19 (e2_fa ein_20 (e2_fa ein_60 e2_fz))) (by decide) co_c135 fun M d _ hC hcall p e R s m args below meth c Q D cA A ads r0 ha hl0 => ?_
  have L_0 : e2_gdM M p l e R s m args below meth c Q D cA A ads r0 66 al_c135_0 [] E_c135_0 h_c135_0 := by
    refine e2_indL (u := 3) (j := 5) (lo := 2147483648) (hi := 2147483678) (b := 3) (dd := 0) hl0 (by decide) rfl rfl (Or.inr ⟨rfl, rfl⟩) rfl ci_c135_0 cj_c135_0 ?_
    intro r_0 k_0 hk_0 hp_0 hs_0 hn_0
    have hl_0 : r_0.length ≤ 4 := hs_0.len rfl
    have ha_0 := ha.ext hp_0
    exact e2_fromM hen ha_0 hcall (e2_cutA_ok (e2_fa (fun al st E h hc => hn_0 al st E h hc) e2_fz)) (hC []) (X := e2x_59) ex2_59 66 ck_c135_0
  have EN_0 := e2_entL (u := 3) (j := 5) (lo := 2147483648) (hi := 2147483678) hl0 rfl rfl rfl ci_c135_0 cj_c135_0 L_0
  exact e2_from hen ha hcall (e2_cutA_ok (e2_fa (fun al st E h hc => EN_0 al st E h hc) e2_fz)) (hC []) (X := e2x_59) ex2_59 0 ck_c135_e
/-! c136 X3_parseNot -/
def as_c136 : List ev_V := [(2, 33, 0), (2, 14, 0), (0, 4, 0)]
def E_c136 : e2_E := [(2147483648, 2147583648, 0, 0), (2147483652, 2147483668, 1, 0), (2147483648, 2147485248, 2, 0)]
noncomputable def f_c136 : ev_H := (cn655 : e2_Q8)
noncomputable def q_c136_0 : ev_H := (cn655 : e2_Q8)
noncomputable def rs_c136 : e2_Rs := [((11, 2147483648, 2147483649), q_c136_0)]
noncomputable def s_c136 : e2_Sm := (61, as_c136, E_c136, f_c136, rs_c136)
noncomputable def S_c136 : List e2_Sm := [s_c38, s_c129]
noncomputable def I_c136 : List e2_In := [(19, 2, e2x_19), (20, 2, e2x_20)]
set_option maxRecDepth 1000000 in
theorem ck_c136 : e2_run (e2_cal S_c136 I_c136 4000 2) (e2_fin rs_c136) e2x_61 (fun _ => false) (fun _ _ _ _ _ => false) 4000 (e2_seek e2x_61 0) (e2_al 3 as_c136) [] E_c136 f_c136 = true := by decide +kernel
set_option maxRecDepth 1000000 in
theorem co_c136 : e2_okSB E_c136.length as_c136 f_c136 rs_c136 = true := by decide +kernel
theorem cs_c136 (hen : en_ok) (l : Launch) (hh : e2_hand_c l) : e2_smOk l 116 s_c136 := e2_con0 (H := 113) (n := 2) (C := evd_61) (S := S_c136) (I := I_c136) (fuel := 4000) [] hen ei_61 (e2_fa ((cs_c38 hen l hh).mono (by decide)) (e2_fa (cs_c129 hen l hh) e2_fz)) (e2_fa ein_19 (e2_fa ein_20 e2_fz)) (by decide) co_c136 ex2_61 ck_c136
/-! c137 X3_parseLevel -/
def as_c137 : List ev_V := [(2, 33, 0), (2, 14, 0), (0, 2, 0), (0, 4, 0)]
def E_c137 : e2_E := [(2147483648, 2147583648, 0, 0), (2147483652, 2147483668, 1, 0), (2147483648, 2147485248, 2, 0)]
noncomputable def f_c137 : ev_H := (cn655 : e2_Q8)
noncomputable def q_c137_0 : ev_H := (cn655 : e2_Q8)
noncomputable def rs_c137 : e2_Rs := [((11, 2147483648, 2147483649), q_c137_0)]
noncomputable def s_c137 : e2_Sm := (59, as_c137, E_c137, f_c137, rs_c137)
noncomputable def S_c137 : List e2_Sm := [s_c38, s_c135, s_c136]
noncomputable def I_c137 : List e2_In := [(19, 2, e2x_19), (20, 2, e2x_20), (60, 1, e2x_60)]
set_option maxRecDepth 1000000 in
theorem co_c137 : e2_okSB E_c137.length as_c137 f_c137 rs_c137 = true := by decide +kernel
def al_c137_0 : List ev_V := [(2, 33, 0), (2, 14, 0), (0, 2, 0), (0, 4, 0), (0, 1, 0), (1, 3, 4294967296), (9, 0, 0)]
def E_c137_0 : e2_E := [(2147483648, 2147583648, 0, 0), (2147483652, 2147483668, 1, 0), (2147483648, 2147485248, 2, 0), (2147483648, 2147483649, 3, 0)]
noncomputable def h_c137_0 : ev_H := (cn655 : e2_Q8)
noncomputable def cl_c137_e : List (Nat × e2_S) := [(66, e2_cutL (al_c137_0.set 5 (11, 2147483648, 2147483649)) 3 (E_c137_0.take 3) h_c137_0)]
set_option maxRecDepth 1000000 in
theorem ck_c137_e : e2_run (e2_cal S_c137 I_c137 4000 2) (e2_fin rs_c137) e2x_59 (e2_bpL cl_c137_e) (e2_cutA cl_c137_e) 4000 (e2_seek e2x_59 0) (e2_al 7 as_c137) [] E_c137 f_c137 = true := by decide +kernel
noncomputable def cl_c137_0 : List (Nat × e2_S) := [(66, e2_cutL (al_c137_0.set 5 (13, 11, 2147483649)) 3 (E_c137_0.take 3) h_c137_0)]
set_option maxRecDepth 1000000 in
theorem ck_c137_0 : e2_runM (e2_cal S_c137 I_c137 4000 2) (e2_fin rs_c137) e2x_59 (e2_bpL cl_c137_0) (e2_cutA cl_c137_0) 4000 (e2_seek e2x_59 66) al_c137_0 [] E_c137_0 h_c137_0 = true := by decide +kernel
set_option maxRecDepth 1000000 in
theorem ci_c137_0 : e2_idl 3 (al_c137_0.set 5 (9, 0, 0)) = true := by decide +kernel
set_option maxRecDepth 1000000 in
theorem cj_c137_0 : e2_idh 3 8 h_c137_0 = true := by decide +kernel
theorem cs_c137 (hen : en_ok) (l : Launch) (hh : e2_hand_c l) : e2_smOk l 132 s_c137 := by
  refine e2_conG (H := 129) (n := 2) (C := evd_59) (S := S_c137) (I := I_c137) (fuel := 4000) hen ei_59 (e2_fa ((cs_c38 hen l hh).mono (by decide)) (e2_fa (cs_c135 hen l hh) (e2_fa ((cs_c136 hen l hh).mono (by decide)) e2_fz))) (e2_fa ein_19 (e2_fa ein_20 (e2_fa ein_60 e2_fz))) (by decide) co_c137 fun M d _ hC hcall p e R s m args below meth c Q D cA A ads r0 ha hl0 => ?_
  have L_0 : e2_gdM M p l e R s m args below meth c Q D cA A ads r0 66 al_c137_0 [] E_c137_0 h_c137_0 := by
    refine e2_indL (u := 3) (j := 5) (lo := 2147483648) (hi := 2147483649) (b := 3) (dd := 0) hl0 (by decide) rfl rfl (Or.inr ⟨rfl, rfl⟩) rfl ci_c137_0 cj_c137_0 ?_
    intro r_0 k_0 hk_0 hp_0 hs_0 hn_0
    have hl_0 : r_0.length ≤ 4 := hs_0.len rfl
    have ha_0 := ha.ext hp_0
    exact e2_fromM hen ha_0 hcall (e2_cutA_ok (e2_fa (fun al st E h hc => hn_0 al st E h hc) e2_fz)) (hC []) (X := e2x_59) ex2_59 66 ck_c137_0
  have EN_0 := e2_entL (u := 3) (j := 5) (lo := 2147483648) (hi := 2147483649) hl0 rfl rfl rfl ci_c137_0 cj_c137_0 L_0
  exact e2_from hen ha hcall (e2_cutA_ok (e2_fa (fun al st E h hc => EN_0 al st E h hc) e2_fz)) (hC []) (X := e2x_59) ex2_59 0 ck_c137_e
/-! c138 X3_parseLevel -/
def as_c138 : List ev_V := [(2, 33, 0), (2, 14, 0), (0, 1, 0), (0, 4, 0)]
def E_c138 : e2_E := [(2147483648, 2147583648, 0, 0), (2147483652, 2147483668, 1, 0), (2147483648, 2147485248, 2, 0)]
noncomputable def f_c138 : ev_H := (cn655 : e2_Q8)
noncomputable def q_c138_0 : ev_H := (cn655 : e2_Q8)
noncomputable def rs_c138 : e2_Rs := [((11, 2147483648, 2147483649), q_c138_0)]
noncomputable def s_c138 : e2_Sm := (59, as_c138, E_c138, f_c138, rs_c138)
noncomputable def S_c138 : List e2_Sm := [s_c38, s_c137]
noncomputable def I_c138 : List e2_In := [(19, 2, e2x_19), (20, 2, e2x_20), (60, 1, e2x_60)]
set_option maxRecDepth 1000000 in
theorem co_c138 : e2_okSB E_c138.length as_c138 f_c138 rs_c138 = true := by decide +kernel
def al_c138_0 : List ev_V := [(2, 33, 0), (2, 14, 0), (0, 1, 0), (0, 4, 0), (0, 30, 0), (1, 3, 4294967296), (9, 0, 0)]
def E_c138_0 : e2_E := [(2147483648, 2147583648, 0, 0), (2147483652, 2147483668, 1, 0), (2147483648, 2147485248, 2, 0), (2147483648, 2147483678, 3, 0)]
noncomputable def h_c138_0 : ev_H := (cn655 : e2_Q8)
noncomputable def cl_c138_e : List (Nat × e2_S) := [(66, e2_cutL (al_c138_0.set 5 (11, 2147483648, 2147483678)) 3 (E_c138_0.take 3) h_c138_0)]
set_option maxRecDepth 1000000 in
theorem ck_c138_e : e2_run (e2_cal S_c138 I_c138 4000 2) (e2_fin rs_c138) e2x_59 (e2_bpL cl_c138_e) (e2_cutA cl_c138_e) 4000 (e2_seek e2x_59 0) (e2_al 7 as_c138) [] E_c138 f_c138 = true := by decide +kernel
noncomputable def cl_c138_0 : List (Nat × e2_S) := [(66, e2_cutL (al_c138_0.set 5 (13, 11, 2147483678)) 3 (E_c138_0.take 3) h_c138_0)]
set_option maxRecDepth 1000000 in
theorem ck_c138_0 : e2_runM (e2_cal S_c138 I_c138 4000 2) (e2_fin rs_c138) e2x_59 (e2_bpL cl_c138_0) (e2_cutA cl_c138_0) 4000 (e2_seek e2x_59 66) al_c138_0 [] E_c138_0 h_c138_0 = true := by decide +kernel
set_option maxRecDepth 1000000 in
theorem ci_c138_0 : e2_idl 3 (al_c138_0.set 5 (9, 0, 0)) = true := by decide +kernel
set_option maxRecDepth 1000000 in
theorem cj_c138_0 : e2_idh 3 8 h_c138_0 = true := by decide +kernel
theorem cs_c138 (hen : en_ok) (l : Launch) (hh : e2_hand_c l) : e2_smOk l 135 s_c138 := by
  refine e2_conG (H := 132) (n := 2) (C := evd_59) (S := S_c138) (I := I_c138) (fuel := 4000) hen ei_59 (e2_fa ((cs_c38 hen l hh).mono (by decide)) (e2_fa (cs_c137 hen l hh) e2_fz)) (e2_fa ein_19 (e2_fa ein_20 (e2_fa ein_60 e2_fz))) (by decide) co_c138 fun M d _ hC hcall p e R s m args below meth c Q D cA A ads r0 ha hl0 => ?_
  have L_0 : e2_gdM M p l e R s m args below meth c Q D cA A ads r0 66 al_c138_0 [] E_c138_0 h_c138_0 := by
    refine e2_indL (u := 3) (j := 5) (lo := 2147483648) (hi := 2147483678) (b := 3) (dd := 0) hl0 (by decide) rfl rfl (Or.inr ⟨rfl, rfl⟩) rfl ci_c138_0 cj_c138_0 ?_
    intro r_0 k_0 hk_0 hp_0 hs_0 hn_0
    have hl_0 : r_0.length ≤ 4 := hs_0.len rfl
    have ha_0 := ha.ext hp_0
    exact e2_fromM hen ha_0 hcall (e2_cutA_ok (e2_fa (fun al st E h hc => hn_0 al st E h hc) e2_fz)) (hC []) (X := e2x_59) ex2_59 66 ck_c138_0
  have EN_0 := e2_entL (u := 3) (j := 5) (lo := 2147483648) (hi := 2147483678) hl0 rfl rfl rfl ci_c138_0 cj_c138_0 L_0
  exact e2_from hen ha hcall (e2_cutA_ok (e2_fa (fun al st E h hc => EN_0 al st E h hc) e2_fz)) (hC []) (X := e2x_59) ex2_59 0 ck_c138_e
/-! c139 X3_parseLevel -/
def as_c139 : List ev_V := [(2, 33, 0), (2, 14, 0), (0, 0, 0), (0, 4, 0)]
def E_c139 : e2_E := [(2147483648, 2147583648, 0, 0), (2147483652, 2147483668, 1, 0), (2147483648, 2147485248, 2, 0)]
noncomputable def f_c139 : ev_H := (cn655 : e2_Q8)
noncomputable def q_c139_0 : ev_H := (cn655 : e2_Q8)
noncomputable def rs_c139 : e2_Rs := [((11, 2147483648, 2147483649), q_c139_0)]
noncomputable def s_c139 : e2_Sm := (59, as_c139, E_c139, f_c139, rs_c139)
noncomputable def S_c139 : List e2_Sm := [s_c38, s_c138]
noncomputable def I_c139 : List e2_In := [(19, 2, e2x_19), (20, 2, e2x_20), (60, 1, e2x_60)]
set_option maxRecDepth 1000000 in
theorem co_c139 : e2_okSB E_c139.length as_c139 f_c139 rs_c139 = true := by decide +kernel
def al_c139_0 : List ev_V := [(2, 33, 0), (2, 14, 0), (0, 0, 0), (0, 4, 0), (0, 30, 0), (1, 3, 4294967296), (9, 0, 0)]
def E_c139_0 : e2_E := [(2147483648, 2147583648, 0, 0), (2147483652, 2147483668, 1, 0), (2147483648, 2147485248, 2, 0), (2147483648, 2147483678, 3, 0)]
noncomputable def h_c139_0 : ev_H := (cn655 : e2_Q8)
noncomputable def cl_c139_e : List (Nat × e2_S) := [(66, e2_cutL (al_c139_0.set 5 (11, 2147483648, 2147483678)) 3 (E_c139_0.take 3) h_c139_0)]
set_option maxRecDepth 1000000 in
theorem ck_c139_e : e2_run (e2_cal S_c139 I_c139 4000 2) (e2_fin rs_c139) e2x_59 (e2_bpL cl_c139_e) (e2_cutA cl_c139_e) 4000 (e2_seek e2x_59 0) (e2_al 7 as_c139) [] E_c139 f_c139 = true := by decide +kernel
noncomputable def cl_c139_0 : List (Nat × e2_S) := [(66, e2_cutL (al_c139_0.set 5 (13, 11, 2147483678)) 3 (E_c139_0.take 3) h_c139_0)]
set_option maxRecDepth 1000000 in
theorem ck_c139_0 : e2_runM (e2_cal S_c139 I_c139 4000 2) (e2_fin rs_c139) e2x_59 (e2_bpL cl_c139_0) (e2_cutA cl_c139_0) 4000 (e2_seek e2x_59 66) al_c139_0 [] E_c139_0 h_c139_0 = true := by decide +kernel
set_option maxRecDepth 1000000 in
theorem ci_c139_0 : e2_idl 3 (al_c139_0.set 5 (9, 0, 0)) = true := by decide +kernel
set_option maxRecDepth 1000000 in
theorem cj_c139_0 : e2_idh 3 8 h_c139_0 = true := by decide +kernel
theorem cs_c139 (hen : en_ok) (l : Launch) (hh : e2_hand_c l) : e2_smOk l 138 s_c139 := by
  refine e2_conG (H := 135) (n := 2) (C := evd_59) (S := S_c139) (I := I_c139) (fuel := 4000) hen ei_59 (e2_fa ((cs_c38 hen l hh).mono (by decide)) (e2_fa (cs_c138 hen l hh) e2_fz)) (e2_fa ein_19 (e2_fa ein_20 (e2_fa ein_60 e2_fz))) (by decide) co_c139 fun M d _ hC hcall p e R s m args below meth c Q D cA A ads r0 ha hl0 => ?_
  have L_0 : e2_gdM M p l e R s m args below meth c Q D cA A ads r0 66 al_c139_0 [] E_c139_0 h_c139_0 := by
    refine e2_indL (u := 3) (j := 5) (lo := 2147483648) (hi := 2147483678) (b := 3) (dd := 0) hl0 (by decide) rfl rfl (Or.inr ⟨rfl, rfl⟩) rfl ci_c139_0 cj_c139_0 ?_
    intro r_0 k_0 hk_0 hp_0 hs_0 hn_0
    have hl_0 : r_0.length ≤ 4 := hs_0.len rfl
    have ha_0 := ha.ext hp_0
    exact e2_fromM hen ha_0 hcall (e2_cutA_ok (e2_fa (fun al st E h hc => hn_0 al st E h hc) e2_fz)) (hC []) (X := e2x_59) ex2_59 66 ck_c139_0
  have EN_0 := e2_entL (u := 3) (j := 5) (lo := 2147483648) (hi := 2147483678) hl0 rfl rfl rfl ci_c139_0 cj_c139_0 L_0
  exact e2_from hen ha hcall (e2_cutA_ok (e2_fa (fun al st E h hc => EN_0 al st E h hc) e2_fz)) (hC []) (X := e2x_59) ex2_59 0 ck_c139_e
/-! c140 X3_parseUnit -/
def as_c140 : List ev_V := [(2, 33, 0), (2, 14, 0), (0, 3, 0)]
def E_c140 : e2_E := [(2147483648, 2147583648, 0, 0), (2147483652, 2147483668, 1, 0), (2147483648, 2147485248, 2, 0)]
noncomputable def f_c140 : ev_H := (cn655 : e2_Q8)
noncomputable def q_c140_0 : ev_H := (cn655 : e2_Q8)
noncomputable def rs_c140 : e2_Rs := [((11, 2147483648, 2147483649), q_c140_0)]
noncomputable def s_c140 : e2_Sm := (62, as_c140, E_c140, f_c140, rs_c140)
noncomputable def S_c140 : List e2_Sm := [s_c38, s_c39, s_c139]
noncomputable def I_c140 : List e2_In := [(18, 2, e2x_18), (19, 2, e2x_19), (20, 2, e2x_20), (43, 2, e2x_43), (44, 3, e2x_44)]
set_option maxRecDepth 1000000 in
theorem ck_c140 : e2_run (e2_cal S_c140 I_c140 4000 2) (e2_fin rs_c140) e2x_62 (fun _ => false) (fun _ _ _ _ _ => false) 4000 (e2_seek e2x_62 0) (e2_al 7 as_c140) [] E_c140 f_c140 = true := by decide +kernel
set_option maxRecDepth 1000000 in
theorem co_c140 : e2_okSB E_c140.length as_c140 f_c140 rs_c140 = true := by decide +kernel
theorem cs_c140 (hen : en_ok) (l : Launch) (hh : e2_hand_c l) : e2_smOk l 141 s_c140 := e2_con0 (H := 138) (n := 2) (C := evd_62) (S := S_c140) (I := I_c140) (fuel := 4000) [] hen ei_62 (e2_fa ((cs_c38 hen l hh).mono (by decide)) (e2_fa ((cs_c39 hen l hh).mono (by decide)) (e2_fa (cs_c139 hen l hh) e2_fz))) (e2_fa ein_18 (e2_fa ein_19 (e2_fa ein_20 (e2_fa ein_43 (e2_fa ein_44 e2_fz))))) (by decide) co_c140 ex2_62 ck_c140
/-! c141 X3_parseLevel -/
def as_c141 : List ev_V := [(2, 33, 0), (2, 14, 0), (0, 5, 0), (0, 3, 0)]
def E_c141 : e2_E := [(2147483648, 2147583648, 0, 0), (2147483652, 2147483668, 1, 0), (2147483648, 2147485248, 2, 0)]
noncomputable def f_c141 : ev_H := (cn655 : e2_Q8)
noncomputable def q_c141_0 : ev_H := (cn655 : e2_Q8)
noncomputable def rs_c141 : e2_Rs := [((11, 2147483648, 2147483649), q_c141_0)]
noncomputable def s_c141 : e2_Sm := (59, as_c141, E_c141, f_c141, rs_c141)
noncomputable def S_c141 : List e2_Sm := [s_c140]
noncomputable def I_c141 : List e2_In := []
set_option maxRecDepth 1000000 in
theorem ck_c141 : e2_run (e2_cal S_c141 I_c141 4000 0) (e2_fin rs_c141) e2x_59 (fun _ => false) (fun _ _ _ _ _ => false) 4000 (e2_seek e2x_59 0) (e2_al 7 as_c141) [] E_c141 f_c141 = true := by decide +kernel
set_option maxRecDepth 1000000 in
theorem co_c141 : e2_okSB E_c141.length as_c141 f_c141 rs_c141 = true := by decide +kernel
theorem cs_c141 (hen : en_ok) (l : Launch) (hh : e2_hand_c l) : e2_smOk l 142 s_c141 := e2_con0 (H := 141) (n := 0) (C := evd_59) (S := S_c141) (I := I_c141) (fuel := 4000) [] hen ei_59 (e2_fa (cs_c140 hen l hh) e2_fz) e2_fz (by decide) co_c141 ex2_59 ck_c141
/-! c142 X3_parseLevel -/
def as_c142 : List ev_V := [(2, 33, 0), (2, 14, 0), (0, 4, 0), (0, 3, 0)]
def E_c142 : e2_E := [(2147483648, 2147583648, 0, 0), (2147483652, 2147483668, 1, 0), (2147483648, 2147485248, 2, 0)]
noncomputable def f_c142 : ev_H := (cn655 : e2_Q8)
noncomputable def q_c142_0 : ev_H := (cn655 : e2_Q8)
noncomputable def rs_c142 : e2_Rs := [((11, 2147483648, 2147483649), q_c142_0)]
noncomputable def s_c142 : e2_Sm := (59, as_c142, E_c142, f_c142, rs_c142)
noncomputable def S_c142 : List e2_Sm := [s_c38, s_c141]
noncomputable def I_c142 : List e2_In := [(19, 2, e2x_19), (20, 2, e2x_20), (60, 1, e2x_60)]
set_option maxRecDepth 1000000 in
theorem co_c142 : e2_okSB E_c142.length as_c142 f_c142 rs_c142 = true := by decide +kernel
def al_c142_0 : List ev_V := [(2, 33, 0), (2, 14, 0), (0, 4, 0), (0, 3, 0), (0, 30, 0), (1, 3, 4294967296), (9, 0, 0)]
def E_c142_0 : e2_E := [(2147483648, 2147583648, 0, 0), (2147483652, 2147483668, 1, 0), (2147483648, 2147485248, 2, 0), (2147483648, 2147483678, 3, 0)]
noncomputable def h_c142_0 : ev_H := (cn655 : e2_Q8)
noncomputable def cl_c142_e : List (Nat × e2_S) := [(66, e2_cutL (al_c142_0.set 5 (11, 2147483648, 2147483678)) 3 (E_c142_0.take 3) h_c142_0)]
set_option maxRecDepth 1000000 in
theorem ck_c142_e : e2_run (e2_cal S_c142 I_c142 4000 2) (e2_fin rs_c142) e2x_59 (e2_bpL cl_c142_e) (e2_cutA cl_c142_e) 4000 (e2_seek e2x_59 0) (e2_al 7 as_c142) [] E_c142 f_c142 = true := by decide +kernel
noncomputable def cl_c142_0 : List (Nat × e2_S) := [(66, e2_cutL (al_c142_0.set 5 (13, 11, 2147483678)) 3 (E_c142_0.take 3) h_c142_0)]
set_option maxRecDepth 1000000 in
theorem ck_c142_0 : e2_runM (e2_cal S_c142 I_c142 4000 2) (e2_fin rs_c142) e2x_59 (e2_bpL cl_c142_0) (e2_cutA cl_c142_0) 4000 (e2_seek e2x_59 66) al_c142_0 [] E_c142_0 h_c142_0 = true := by decide +kernel
set_option maxRecDepth 1000000 in
theorem ci_c142_0 : e2_idl 3 (al_c142_0.set 5 (9, 0, 0)) = true := by decide +kernel
set_option maxRecDepth 1000000 in
theorem cj_c142_0 : e2_idh 3 8 h_c142_0 = true := by decide +kernel
theorem cs_c142 (hen : en_ok) (l : Launch) (hh : e2_hand_c l) : e2_smOk l 145 s_c142 := by
  refine e2_conG (H := 142) (n := 2) (C := evd_59) (S := S_c142) (I := I_c142) (fuel := 4000) hen ei_59 (e2_fa ((cs_c38 hen l hh).mono (by decide)) (e2_fa (cs_c141 hen l hh) e2_fz)) (e2_fa ein_19 (e2_fa ein_20 (e2_fa ein_60 e2_fz))) (by decide) co_c142 fun M d _ hC hcall p e R s m args below meth c Q D cA A ads r0 ha hl0 => ?_
  have L_0 : e2_gdM M p l e R s m args below meth c Q D cA A ads r0 66 al_c142_0 [] E_c142_0 h_c142_0 := by
    refine e2_indL (u := 3) (j := 5) (lo := 2147483648) (hi := 2147483678) (b := 3) (dd := 0) hl0 (by decide) rfl rfl (Or.inr ⟨rfl, rfl⟩) rfl ci_c142_0 cj_c142_0 ?_
    intro r_0 k_0 hk_0 hp_0 hs_0 hn_0
    have hl_0 : r_0.length ≤ 4 := hs_0.len rfl
    have ha_0 := ha.ext hp_0
    exact e2_fromM hen ha_0 hcall (e2_cutA_ok (e2_fa (fun al st E h hc => hn_0 al st E h hc) e2_fz)) (hC []) (X := e2x_59) ex2_59 66 ck_c142_0
  have EN_0 := e2_entL (u := 3) (j := 5) (lo := 2147483648) (hi := 2147483678) hl0 rfl rfl rfl ci_c142_0 cj_c142_0 L_0
  exact e2_from hen ha hcall (e2_cutA_ok (e2_fa (fun al st E h hc => EN_0 al st E h hc) e2_fz)) (hC []) (X := e2x_59) ex2_59 0 ck_c142_e
/-! c143 X3_parseLevel -/
def as_c143 : List ev_V := [(2, 33, 0), (2, 14, 0), (0, 3, 0), (0, 3, 0)]
def E_c143 : e2_E := [(2147483648, 2147583648, 0, 0), (2147483652, 2147483668, 1, 0), (2147483648, 2147485248, 2, 0)]
noncomputable def f_c143 : ev_H := (cn655 : e2_Q8)
noncomputable def q_c143_0 : ev_H := (cn655 : e2_Q8)
noncomputable def rs_c143 : e2_Rs := [((11, 2147483648, 2147483649), q_c143_0)]
noncomputable def s_c143 : e2_Sm := (59, as_c143, E_c143, f_c143, rs_c143)
noncomputable def S_c143 : List e2_Sm := [s_c38, s_c142]
noncomputable def I_c143 : List e2_In := [(19, 2, e2x_19), (20, 2, e2x_20), (60, 1, e2x_60)]
set_option maxRecDepth 1000000 in
theorem co_c143 : e2_okSB E_c143.length as_c143 f_c143 rs_c143 = true := by decide +kernel
def al_c143_0 : List ev_V := [(2, 33, 0), (2, 14, 0), (0, 3, 0), (0, 3, 0), (0, 30, 0), (1, 3, 4294967296), (9, 0, 0)]
def E_c143_0 : e2_E := [(2147483648, 2147583648, 0, 0), (2147483652, 2147483668, 1, 0), (2147483648, 2147485248, 2, 0), (2147483648, 2147483678, 3, 0)]
noncomputable def h_c143_0 : ev_H := (cn655 : e2_Q8)
noncomputable def cl_c143_e : List (Nat × e2_S) := [(66, e2_cutL (al_c143_0.set 5 (11, 2147483648, 2147483678)) 3 (E_c143_0.take 3) h_c143_0)]
set_option maxRecDepth 1000000 in
theorem ck_c143_e : e2_run (e2_cal S_c143 I_c143 4000 2) (e2_fin rs_c143) e2x_59 (e2_bpL cl_c143_e) (e2_cutA cl_c143_e) 4000 (e2_seek e2x_59 0) (e2_al 7 as_c143) [] E_c143 f_c143 = true := by decide +kernel
noncomputable def cl_c143_0 : List (Nat × e2_S) := [(66, e2_cutL (al_c143_0.set 5 (13, 11, 2147483678)) 3 (E_c143_0.take 3) h_c143_0)]
set_option maxRecDepth 1000000 in
theorem ck_c143_0 : e2_runM (e2_cal S_c143 I_c143 4000 2) (e2_fin rs_c143) e2x_59 (e2_bpL cl_c143_0) (e2_cutA cl_c143_0) 4000 (e2_seek e2x_59 66) al_c143_0 [] E_c143_0 h_c143_0 = true := by decide +kernel
set_option maxRecDepth 1000000 in
theorem ci_c143_0 : e2_idl 3 (al_c143_0.set 5 (9, 0, 0)) = true := by decide +kernel
set_option maxRecDepth 1000000 in
theorem cj_c143_0 : e2_idh 3 8 h_c143_0 = true := by decide +kernel
theorem cs_c143 (hen : en_ok) (l : Launch) (hh : e2_hand_c l) : e2_smOk l 148 s_c143 := by
  refine e2_conG (H := 145) (n := 2) (C := evd_59) (S := S_c143) (I := I_c143) (fuel := 4000) hen ei_59 (e2_fa ((cs_c38 hen l hh).mono (by decide)) (e2_fa (cs_c142 hen l hh) e2_fz)) (e2_fa ein_19 (e2_fa ein_20 (e2_fa ein_60 e2_fz))) (by decide) co_c143 fun M d _ hC hcall p e R s m args below meth c Q D cA A ads r0 ha hl0 => ?_
  have L_0 : e2_gdM M p l e R s m args below meth c Q D cA A ads r0 66 al_c143_0 [] E_c143_0 h_c143_0 := by
    refine e2_indL (u := 3) (j := 5) (lo := 2147483648) (hi := 2147483678) (b := 3) (dd := 0) hl0 (by decide) rfl rfl (Or.inr ⟨rfl, rfl⟩) rfl ci_c143_0 cj_c143_0 ?_
    intro r_0 k_0 hk_0 hp_0 hs_0 hn_0
    have hl_0 : r_0.length ≤ 4 := hs_0.len rfl
    have ha_0 := ha.ext hp_0
    exact e2_fromM hen ha_0 hcall (e2_cutA_ok (e2_fa (fun al st E h hc => hn_0 al st E h hc) e2_fz)) (hC []) (X := e2x_59) ex2_59 66 ck_c143_0
  have EN_0 := e2_entL (u := 3) (j := 5) (lo := 2147483648) (hi := 2147483678) hl0 rfl rfl rfl ci_c143_0 cj_c143_0 L_0
  exact e2_from hen ha hcall (e2_cutA_ok (e2_fa (fun al st E h hc => EN_0 al st E h hc) e2_fz)) (hC []) (X := e2x_59) ex2_59 0 ck_c143_e
/-! c144 X3_parseNot -/
def as_c144 : List ev_V := [(2, 33, 0), (2, 14, 0), (0, 3, 0)]
def E_c144 : e2_E := [(2147483648, 2147583648, 0, 0), (2147483652, 2147483668, 1, 0), (2147483648, 2147485248, 2, 0)]
noncomputable def f_c144 : ev_H := (cn655 : e2_Q8)
noncomputable def q_c144_0 : ev_H := (cn655 : e2_Q8)
noncomputable def rs_c144 : e2_Rs := [((11, 2147483648, 2147483649), q_c144_0)]
noncomputable def s_c144 : e2_Sm := (61, as_c144, E_c144, f_c144, rs_c144)
noncomputable def S_c144 : List e2_Sm := [s_c38, s_c137]
noncomputable def I_c144 : List e2_In := [(19, 2, e2x_19), (20, 2, e2x_20)]
set_option maxRecDepth 1000000 in
theorem ck_c144 : e2_run (e2_cal S_c144 I_c144 4000 2) (e2_fin rs_c144) e2x_61 (fun _ => false) (fun _ _ _ _ _ => false) 4000 (e2_seek e2x_61 0) (e2_al 3 as_c144) [] E_c144 f_c144 = true := by decide +kernel
set_option maxRecDepth 1000000 in
theorem co_c144 : e2_okSB E_c144.length as_c144 f_c144 rs_c144 = true := by decide +kernel
theorem cs_c144 (hen : en_ok) (l : Launch) (hh : e2_hand_c l) : e2_smOk l 135 s_c144 := e2_con0 (H := 132) (n := 2) (C := evd_61) (S := S_c144) (I := I_c144) (fuel := 4000) [] hen ei_61 (e2_fa ((cs_c38 hen l hh).mono (by decide)) (e2_fa (cs_c137 hen l hh) e2_fz)) (e2_fa ein_19 (e2_fa ein_20 e2_fz)) (by decide) co_c144 ex2_61 ck_c144
/-! c145 X3_parseLevel -/
def as_c145 : List ev_V := [(2, 33, 0), (2, 14, 0), (0, 2, 0), (0, 3, 0)]
def E_c145 : e2_E := [(2147483648, 2147583648, 0, 0), (2147483652, 2147483668, 1, 0), (2147483648, 2147485248, 2, 0)]
noncomputable def f_c145 : ev_H := (cn655 : e2_Q8)
noncomputable def q_c145_0 : ev_H := (cn655 : e2_Q8)
noncomputable def rs_c145 : e2_Rs := [((11, 2147483648, 2147483649), q_c145_0)]
noncomputable def s_c145 : e2_Sm := (59, as_c145, E_c145, f_c145, rs_c145)
noncomputable def S_c145 : List e2_Sm := [s_c38, s_c143, s_c144]
noncomputable def I_c145 : List e2_In := [(19, 2, e2x_19), (20, 2, e2x_20), (60, 1, e2x_60)]
set_option maxRecDepth 1000000 in
theorem co_c145 : e2_okSB E_c145.length as_c145 f_c145 rs_c145 = true := by decide +kernel
def al_c145_0 : List ev_V := [(2, 33, 0), (2, 14, 0), (0, 2, 0), (0, 3, 0), (0, 1, 0), (1, 3, 4294967296), (9, 0, 0)]
def E_c145_0 : e2_E := [(2147483648, 2147583648, 0, 0), (2147483652, 2147483668, 1, 0), (2147483648, 2147485248, 2, 0), (2147483648, 2147483649, 3, 0)]
noncomputable def h_c145_0 : ev_H := (cn655 : e2_Q8)
noncomputable def cl_c145_e : List (Nat × e2_S) := [(66, e2_cutL (al_c145_0.set 5 (11, 2147483648, 2147483649)) 3 (E_c145_0.take 3) h_c145_0)]
set_option maxRecDepth 1000000 in
theorem ck_c145_e : e2_run (e2_cal S_c145 I_c145 4000 2) (e2_fin rs_c145) e2x_59 (e2_bpL cl_c145_e) (e2_cutA cl_c145_e) 4000 (e2_seek e2x_59 0) (e2_al 7 as_c145) [] E_c145 f_c145 = true := by decide +kernel
noncomputable def cl_c145_0 : List (Nat × e2_S) := [(66, e2_cutL (al_c145_0.set 5 (13, 11, 2147483649)) 3 (E_c145_0.take 3) h_c145_0)]
set_option maxRecDepth 1000000 in
theorem ck_c145_0 : e2_runM (e2_cal S_c145 I_c145 4000 2) (e2_fin rs_c145) e2x_59 (e2_bpL cl_c145_0) (e2_cutA cl_c145_0) 4000 (e2_seek e2x_59 66) al_c145_0 [] E_c145_0 h_c145_0 = true := by decide +kernel
set_option maxRecDepth 1000000 in
theorem ci_c145_0 : e2_idl 3 (al_c145_0.set 5 (9, 0, 0)) = true := by decide +kernel
set_option maxRecDepth 1000000 in
theorem cj_c145_0 : e2_idh 3 8 h_c145_0 = true := by decide +kernel
theorem cs_c145 (hen : en_ok) (l : Launch) (hh : e2_hand_c l) : e2_smOk l 151 s_c145 := by
  refine e2_conG (H := 148) (n := 2) (C := evd_59) (S := S_c145) (I := I_c145) (fuel := 4000) hen ei_59 (e2_fa ((cs_c38 hen l hh).mono (by decide)) (e2_fa (cs_c143 hen l hh) (e2_fa ((cs_c144 hen l hh).mono (by decide)) e2_fz))) (e2_fa ein_19 (e2_fa ein_20 (e2_fa ein_60 e2_fz))) (by decide) co_c145 fun M d _ hC hcall p e R s m args below meth c Q D cA A ads r0 ha hl0 => ?_
  have L_0 : e2_gdM M p l e R s m args below meth c Q D cA A ads r0 66 al_c145_0 [] E_c145_0 h_c145_0 := by
    refine e2_indL (u := 3) (j := 5) (lo := 2147483648) (hi := 2147483649) (b := 3) (dd := 0) hl0 (by decide) rfl rfl (Or.inr ⟨rfl, rfl⟩) rfl ci_c145_0 cj_c145_0 ?_
    intro r_0 k_0 hk_0 hp_0 hs_0 hn_0
    have hl_0 : r_0.length ≤ 4 := hs_0.len rfl
    have ha_0 := ha.ext hp_0
    exact e2_fromM hen ha_0 hcall (e2_cutA_ok (e2_fa (fun al st E h hc => hn_0 al st E h hc) e2_fz)) (hC []) (X := e2x_59) ex2_59 66 ck_c145_0
  have EN_0 := e2_entL (u := 3) (j := 5) (lo := 2147483648) (hi := 2147483649) hl0 rfl rfl rfl ci_c145_0 cj_c145_0 L_0
  exact e2_from hen ha hcall (e2_cutA_ok (e2_fa (fun al st E h hc => EN_0 al st E h hc) e2_fz)) (hC []) (X := e2x_59) ex2_59 0 ck_c145_e
/-! c146 X3_parseLevel -/
def as_c146 : List ev_V := [(2, 33, 0), (2, 14, 0), (0, 1, 0), (0, 3, 0)]
def E_c146 : e2_E := [(2147483648, 2147583648, 0, 0), (2147483652, 2147483668, 1, 0), (2147483648, 2147485248, 2, 0)]
noncomputable def f_c146 : ev_H := (cn655 : e2_Q8)
noncomputable def q_c146_0 : ev_H := (cn655 : e2_Q8)
noncomputable def rs_c146 : e2_Rs := [((11, 2147483648, 2147483649), q_c146_0)]
noncomputable def s_c146 : e2_Sm := (59, as_c146, E_c146, f_c146, rs_c146)
noncomputable def S_c146 : List e2_Sm := [s_c38, s_c145]
noncomputable def I_c146 : List e2_In := [(19, 2, e2x_19), (20, 2, e2x_20), (60, 1, e2x_60)]
set_option maxRecDepth 1000000 in
theorem co_c146 : e2_okSB E_c146.length as_c146 f_c146 rs_c146 = true := by decide +kernel
def al_c146_0 : List ev_V := [(2, 33, 0), (2, 14, 0), (0, 1, 0), (0, 3, 0), (0, 30, 0), (1, 3, 4294967296), (9, 0, 0)]
def E_c146_0 : e2_E := [(2147483648, 2147583648, 0, 0), (2147483652, 2147483668, 1, 0), (2147483648, 2147485248, 2, 0), (2147483648, 2147483678, 3, 0)]
noncomputable def h_c146_0 : ev_H := (cn655 : e2_Q8)
noncomputable def cl_c146_e : List (Nat × e2_S) := [(66, e2_cutL (al_c146_0.set 5 (11, 2147483648, 2147483678)) 3 (E_c146_0.take 3) h_c146_0)]
set_option maxRecDepth 1000000 in
theorem ck_c146_e : e2_run (e2_cal S_c146 I_c146 4000 2) (e2_fin rs_c146) e2x_59 (e2_bpL cl_c146_e) (e2_cutA cl_c146_e) 4000 (e2_seek e2x_59 0) (e2_al 7 as_c146) [] E_c146 f_c146 = true := by decide +kernel
noncomputable def cl_c146_0 : List (Nat × e2_S) := [(66, e2_cutL (al_c146_0.set 5 (13, 11, 2147483678)) 3 (E_c146_0.take 3) h_c146_0)]
set_option maxRecDepth 1000000 in
theorem ck_c146_0 : e2_runM (e2_cal S_c146 I_c146 4000 2) (e2_fin rs_c146) e2x_59 (e2_bpL cl_c146_0) (e2_cutA cl_c146_0) 4000 (e2_seek e2x_59 66) al_c146_0 [] E_c146_0 h_c146_0 = true := by decide +kernel
set_option maxRecDepth 1000000 in
theorem ci_c146_0 : e2_idl 3 (al_c146_0.set 5 (9, 0, 0)) = true := by decide +kernel
set_option maxRecDepth 1000000 in
theorem cj_c146_0 : e2_idh 3 8 h_c146_0 = true := by decide +kernel
theorem cs_c146 (hen : en_ok) (l : Launch) (hh : e2_hand_c l) : e2_smOk l 154 s_c146 := by
  refine e2_conG (H := 151) (n := 2) (C := evd_59) (S := S_c146) (I := I_c146) (fuel := 4000) hen ei_59 (e2_fa ((cs_c38 hen l hh).mono (by decide)) (e2_fa (cs_c145 hen l hh) e2_fz)) (e2_fa ein_19 (e2_fa ein_20 (e2_fa ein_60 e2_fz))) (by decide) co_c146 fun M d _ hC hcall p e R s m args below meth c Q D cA A ads r0 ha hl0 => ?_
  have L_0 : e2_gdM M p l e R s m args below meth c Q D cA A ads r0 66 al_c146_0 [] E_c146_0 h_c146_0 := by
    refine e2_indL (u := 3) (j := 5) (lo := 2147483648) (hi := 2147483678) (b := 3) (dd := 0) hl0 (by decide) rfl rfl (Or.inr ⟨rfl, rfl⟩) rfl ci_c146_0 cj_c146_0 ?_
    intro r_0 k_0 hk_0 hp_0 hs_0 hn_0
    have hl_0 : r_0.length ≤ 4 := hs_0.len rfl
    have ha_0 := ha.ext hp_0
    exact e2_fromM hen ha_0 hcall (e2_cutA_ok (e2_fa (fun al st E h hc => hn_0 al st E h hc) e2_fz)) (hC []) (X := e2x_59) ex2_59 66 ck_c146_0
  have EN_0 := e2_entL (u := 3) (j := 5) (lo := 2147483648) (hi := 2147483678) hl0 rfl rfl rfl ci_c146_0 cj_c146_0 L_0
  exact e2_from hen ha hcall (e2_cutA_ok (e2_fa (fun al st E h hc => EN_0 al st E h hc) e2_fz)) (hC []) (X := e2x_59) ex2_59 0 ck_c146_e
/-! c147 X3_parseLevel -/
def as_c147 : List ev_V := [(2, 33, 0), (2, 14, 0), (0, 0, 0), (0, 3, 0)]
def E_c147 : e2_E := [(2147483648, 2147583648, 0, 0), (2147483652, 2147483668, 1, 0), (2147483648, 2147485248, 2, 0)]
noncomputable def f_c147 : ev_H := (cn655 : e2_Q8)
noncomputable def q_c147_0 : ev_H := (cn655 : e2_Q8)
noncomputable def rs_c147 : e2_Rs := [((11, 2147483648, 2147483649), q_c147_0)]
noncomputable def s_c147 : e2_Sm := (59, as_c147, E_c147, f_c147, rs_c147)
noncomputable def S_c147 : List e2_Sm := [s_c38, s_c146]
noncomputable def I_c147 : List e2_In := [(19, 2, e2x_19), (20, 2, e2x_20), (60, 1, e2x_60)]
set_option maxRecDepth 1000000 in
theorem co_c147 : e2_okSB E_c147.length as_c147 f_c147 rs_c147 = true := by decide +kernel
def al_c147_0 : List ev_V := [(2, 33, 0), (2, 14, 0), (0, 0, 0), (0, 3, 0), (0, 30, 0), (1, 3, 4294967296), (9, 0, 0)]
def E_c147_0 : e2_E := [(2147483648, 2147583648, 0, 0), (2147483652, 2147483668, 1, 0), (2147483648, 2147485248, 2, 0), (2147483648, 2147483678, 3, 0)]
noncomputable def h_c147_0 : ev_H := (cn655 : e2_Q8)
noncomputable def cl_c147_e : List (Nat × e2_S) := [(66, e2_cutL (al_c147_0.set 5 (11, 2147483648, 2147483678)) 3 (E_c147_0.take 3) h_c147_0)]
set_option maxRecDepth 1000000 in
theorem ck_c147_e : e2_run (e2_cal S_c147 I_c147 4000 2) (e2_fin rs_c147) e2x_59 (e2_bpL cl_c147_e) (e2_cutA cl_c147_e) 4000 (e2_seek e2x_59 0) (e2_al 7 as_c147) [] E_c147 f_c147 = true := by decide +kernel
noncomputable def cl_c147_0 : List (Nat × e2_S) := [(66, e2_cutL (al_c147_0.set 5 (13, 11, 2147483678)) 3 (E_c147_0.take 3) h_c147_0)]
set_option maxRecDepth 1000000 in
theorem ck_c147_0 : e2_runM (e2_cal S_c147 I_c147 4000 2) (e2_fin rs_c147) e2x_59 (e2_bpL cl_c147_0) (e2_cutA cl_c147_0) 4000 (e2_seek e2x_59 66) al_c147_0 [] E_c147_0 h_c147_0 = true := by decide +kernel
set_option maxRecDepth 1000000 in
theorem ci_c147_0 : e2_idl 3 (al_c147_0.set 5 (9, 0, 0)) = true := by decide +kernel
set_option maxRecDepth 1000000 in
theorem cj_c147_0 : e2_idh 3 8 h_c147_0 = true := by decide +kernel
theorem cs_c147 (hen : en_ok) (l : Launch) (hh : e2_hand_c l) : e2_smOk l 157 s_c147 := by
  refine e2_conG (H := 154) (n := 2) (C := evd_59) (S := S_c147) (I := I_c147) (fuel := 4000) hen ei_59 (e2_fa ((cs_c38 hen l hh).mono (by decide)) (e2_fa (cs_c146 hen l hh) e2_fz)) (e2_fa ein_19 (e2_fa ein_20 (e2_fa ein_60 e2_fz))) (by decide) co_c147 fun M d _ hC hcall p e R s m args below meth c Q D cA A ads r0 ha hl0 => ?_
  have L_0 : e2_gdM M p l e R s m args below meth c Q D cA A ads r0 66 al_c147_0 [] E_c147_0 h_c147_0 := by
    refine e2_indL (u := 3) (j := 5) (lo := 2147483648) (hi := 2147483678) (b := 3) (dd := 0) hl0 (by decide) rfl rfl (Or.inr ⟨rfl, rfl⟩) rfl ci_c147_0 cj_c147_0 ?_
    intro r_0 k_0 hk_0 hp_0 hs_0 hn_0
    have hl_0 : r_0.length ≤ 4 := hs_0.len rfl
    have ha_0 := ha.ext hp_0
    exact e2_fromM hen ha_0 hcall (e2_cutA_ok (e2_fa (fun al st E h hc => hn_0 al st E h hc) e2_fz)) (hC []) (X := e2x_59) ex2_59 66 ck_c147_0
  have EN_0 := e2_entL (u := 3) (j := 5) (lo := 2147483648) (hi := 2147483678) hl0 rfl rfl rfl ci_c147_0 cj_c147_0 L_0
  exact e2_from hen ha hcall (e2_cutA_ok (e2_fa (fun al st E h hc => EN_0 al st E h hc) e2_fz)) (hC []) (X := e2x_59) ex2_59 0 ck_c147_e
/-! c148 X3_parseUnit -/
def as_c148 : List ev_V := [(2, 33, 0), (2, 14, 0), (0, 2, 0)]
def E_c148 : e2_E := [(2147483648, 2147583648, 0, 0), (2147483652, 2147483668, 1, 0), (2147483648, 2147485248, 2, 0)]
noncomputable def f_c148 : ev_H := (cn655 : e2_Q8)
noncomputable def q_c148_0 : ev_H := (cn655 : e2_Q8)
noncomputable def rs_c148 : e2_Rs := [((11, 2147483648, 2147483649), q_c148_0)]
noncomputable def s_c148 : e2_Sm := (62, as_c148, E_c148, f_c148, rs_c148)
noncomputable def S_c148 : List e2_Sm := [s_c38, s_c39, s_c147]
noncomputable def I_c148 : List e2_In := [(18, 2, e2x_18), (19, 2, e2x_19), (20, 2, e2x_20), (43, 2, e2x_43), (44, 3, e2x_44)]
set_option maxRecDepth 1000000 in
theorem ck_c148 : e2_run (e2_cal S_c148 I_c148 4000 2) (e2_fin rs_c148) e2x_62 (fun _ => false) (fun _ _ _ _ _ => false) 4000 (e2_seek e2x_62 0) (e2_al 7 as_c148) [] E_c148 f_c148 = true := by decide +kernel
set_option maxRecDepth 1000000 in
theorem co_c148 : e2_okSB E_c148.length as_c148 f_c148 rs_c148 = true := by decide +kernel
theorem cs_c148 (hen : en_ok) (l : Launch) (hh : e2_hand_c l) : e2_smOk l 160 s_c148 := e2_con0 (H := 157) (n := 2) (C := evd_62) (S := S_c148) (I := I_c148) (fuel := 4000) [] hen ei_62 (e2_fa ((cs_c38 hen l hh).mono (by decide)) (e2_fa ((cs_c39 hen l hh).mono (by decide)) (e2_fa (cs_c147 hen l hh) e2_fz))) (e2_fa ein_18 (e2_fa ein_19 (e2_fa ein_20 (e2_fa ein_43 (e2_fa ein_44 e2_fz))))) (by decide) co_c148 ex2_62 ck_c148
/-! c149 X3_parseLevel -/
def as_c149 : List ev_V := [(2, 33, 0), (2, 14, 0), (0, 5, 0), (0, 2, 0)]
def E_c149 : e2_E := [(2147483648, 2147583648, 0, 0), (2147483652, 2147483668, 1, 0), (2147483648, 2147485248, 2, 0)]
noncomputable def f_c149 : ev_H := (cn655 : e2_Q8)
noncomputable def q_c149_0 : ev_H := (cn655 : e2_Q8)
noncomputable def rs_c149 : e2_Rs := [((11, 2147483648, 2147483649), q_c149_0)]
noncomputable def s_c149 : e2_Sm := (59, as_c149, E_c149, f_c149, rs_c149)
noncomputable def S_c149 : List e2_Sm := [s_c148]
noncomputable def I_c149 : List e2_In := []
set_option maxRecDepth 1000000 in
theorem ck_c149 : e2_run (e2_cal S_c149 I_c149 4000 0) (e2_fin rs_c149) e2x_59 (fun _ => false) (fun _ _ _ _ _ => false) 4000 (e2_seek e2x_59 0) (e2_al 7 as_c149) [] E_c149 f_c149 = true := by decide +kernel
set_option maxRecDepth 1000000 in
theorem co_c149 : e2_okSB E_c149.length as_c149 f_c149 rs_c149 = true := by decide +kernel
theorem cs_c149 (hen : en_ok) (l : Launch) (hh : e2_hand_c l) : e2_smOk l 161 s_c149 := e2_con0 (H := 160) (n := 0) (C := evd_59) (S := S_c149) (I := I_c149) (fuel := 4000) [] hen ei_59 (e2_fa (cs_c148 hen l hh) e2_fz) e2_fz (by decide) co_c149 ex2_59 ck_c149
/-! c150 X3_parseLevel -/
def as_c150 : List ev_V := [(2, 33, 0), (2, 14, 0), (0, 4, 0), (0, 2, 0)]
def E_c150 : e2_E := [(2147483648, 2147583648, 0, 0), (2147483652, 2147483668, 1, 0), (2147483648, 2147485248, 2, 0)]
noncomputable def f_c150 : ev_H := (cn655 : e2_Q8)
noncomputable def q_c150_0 : ev_H := (cn655 : e2_Q8)
noncomputable def rs_c150 : e2_Rs := [((11, 2147483648, 2147483649), q_c150_0)]
noncomputable def s_c150 : e2_Sm := (59, as_c150, E_c150, f_c150, rs_c150)
noncomputable def S_c150 : List e2_Sm := [s_c38, s_c149]
noncomputable def I_c150 : List e2_In := [(19, 2, e2x_19), (20, 2, e2x_20), (60, 1, e2x_60)]
set_option maxRecDepth 1000000 in
theorem co_c150 : e2_okSB E_c150.length as_c150 f_c150 rs_c150 = true := by decide +kernel
def al_c150_0 : List ev_V := [(2, 33, 0), (2, 14, 0), (0, 4, 0), (0, 2, 0), (0, 30, 0), (1, 3, 4294967296), (9, 0, 0)]
def E_c150_0 : e2_E := [(2147483648, 2147583648, 0, 0), (2147483652, 2147483668, 1, 0), (2147483648, 2147485248, 2, 0), (2147483648, 2147483678, 3, 0)]
noncomputable def h_c150_0 : ev_H := (cn655 : e2_Q8)
noncomputable def cl_c150_e : List (Nat × e2_S) := [(66, e2_cutL (al_c150_0.set 5 (11, 2147483648, 2147483678)) 3 (E_c150_0.take 3) h_c150_0)]
set_option maxRecDepth 1000000 in
theorem ck_c150_e : e2_run (e2_cal S_c150 I_c150 4000 2) (e2_fin rs_c150) e2x_59 (e2_bpL cl_c150_e) (e2_cutA cl_c150_e) 4000 (e2_seek e2x_59 0) (e2_al 7 as_c150) [] E_c150 f_c150 = true := by decide +kernel
noncomputable def cl_c150_0 : List (Nat × e2_S) := [(66, e2_cutL (al_c150_0.set 5 (13, 11, 2147483678)) 3 (E_c150_0.take 3) h_c150_0)]
set_option maxRecDepth 1000000 in
theorem ck_c150_0 : e2_runM (e2_cal S_c150 I_c150 4000 2) (e2_fin rs_c150) e2x_59 (e2_bpL cl_c150_0) (e2_cutA cl_c150_0) 4000 (e2_seek e2x_59 66) al_c150_0 [] E_c150_0 h_c150_0 = true := by decide +kernel
set_option maxRecDepth 1000000 in
theorem ci_c150_0 : e2_idl 3 (al_c150_0.set 5 (9, 0, 0)) = true := by decide +kernel
set_option maxRecDepth 1000000 in
theorem cj_c150_0 : e2_idh 3 8 h_c150_0 = true := by decide +kernel
theorem cs_c150 (hen : en_ok) (l : Launch) (hh : e2_hand_c l) : e2_smOk l 164 s_c150 := by
  refine e2_conG (H := 161) (n := 2) (C := evd_59) (S := S_c150) (I := I_c150) (fuel := 4000) hen ei_59 (e2_fa ((cs_c38 hen l hh).mono (by decide)) (e2_fa (cs_c149 hen l hh) e2_fz)) (e2_fa ein_19 (e2_fa ein_20 (e2_fa ein_60 e2_fz))) (by decide) co_c150 fun M d _ hC hcall p e R s m args below meth c Q D cA A ads r0 ha hl0 => ?_
  have L_0 : e2_gdM M p l e R s m args below meth c Q D cA A ads r0 66 al_c150_0 [] E_c150_0 h_c150_0 := by
    refine e2_indL (u := 3) (j := 5) (lo := 2147483648) (hi := 2147483678) (b := 3) (dd := 0) hl0 (by decide) rfl rfl (Or.inr ⟨rfl, rfl⟩) rfl ci_c150_0 cj_c150_0 ?_
    intro r_0 k_0 hk_0 hp_0 hs_0 hn_0
    have hl_0 : r_0.length ≤ 4 := hs_0.len rfl
    have ha_0 := ha.ext hp_0
    exact e2_fromM hen ha_0 hcall (e2_cutA_ok (e2_fa (fun al st E h hc => hn_0 al st E h hc) e2_fz)) (hC []) (X := e2x_59) ex2_59 66 ck_c150_0
  have EN_0 := e2_entL (u := 3) (j := 5) (lo := 2147483648) (hi := 2147483678) hl0 rfl rfl rfl ci_c150_0 cj_c150_0 L_0
  exact e2_from hen ha hcall (e2_cutA_ok (e2_fa (fun al st E h hc => EN_0 al st E h hc) e2_fz)) (hC []) (X := e2x_59) ex2_59 0 ck_c150_e
/-! c151 X3_parseLevel -/
def as_c151 : List ev_V := [(2, 33, 0), (2, 14, 0), (0, 3, 0), (0, 2, 0)]
def E_c151 : e2_E := [(2147483648, 2147583648, 0, 0), (2147483652, 2147483668, 1, 0), (2147483648, 2147485248, 2, 0)]
noncomputable def f_c151 : ev_H := (cn655 : e2_Q8)
noncomputable def q_c151_0 : ev_H := (cn655 : e2_Q8)
noncomputable def rs_c151 : e2_Rs := [((11, 2147483648, 2147483649), q_c151_0)]
noncomputable def s_c151 : e2_Sm := (59, as_c151, E_c151, f_c151, rs_c151)
noncomputable def S_c151 : List e2_Sm := [s_c38, s_c150]
noncomputable def I_c151 : List e2_In := [(19, 2, e2x_19), (20, 2, e2x_20), (60, 1, e2x_60)]
set_option maxRecDepth 1000000 in
theorem co_c151 : e2_okSB E_c151.length as_c151 f_c151 rs_c151 = true := by decide +kernel
def al_c151_0 : List ev_V := [(2, 33, 0), (2, 14, 0), (0, 3, 0), (0, 2, 0), (0, 30, 0), (1, 3, 4294967296), (9, 0, 0)]
def E_c151_0 : e2_E := [(2147483648, 2147583648, 0, 0), (2147483652, 2147483668, 1, 0), (2147483648, 2147485248, 2, 0), (2147483648, 2147483678, 3, 0)]
noncomputable def h_c151_0 : ev_H := (cn655 : e2_Q8)
noncomputable def cl_c151_e : List (Nat × e2_S) := [(66, e2_cutL (al_c151_0.set 5 (11, 2147483648, 2147483678)) 3 (E_c151_0.take 3) h_c151_0)]
set_option maxRecDepth 1000000 in
theorem ck_c151_e : e2_run (e2_cal S_c151 I_c151 4000 2) (e2_fin rs_c151) e2x_59 (e2_bpL cl_c151_e) (e2_cutA cl_c151_e) 4000 (e2_seek e2x_59 0) (e2_al 7 as_c151) [] E_c151 f_c151 = true := by decide +kernel
noncomputable def cl_c151_0 : List (Nat × e2_S) := [(66, e2_cutL (al_c151_0.set 5 (13, 11, 2147483678)) 3 (E_c151_0.take 3) h_c151_0)]
set_option maxRecDepth 1000000 in
theorem ck_c151_0 : e2_runM (e2_cal S_c151 I_c151 4000 2) (e2_fin rs_c151) e2x_59 (e2_bpL cl_c151_0) (e2_cutA cl_c151_0) 4000 (e2_seek e2x_59 66) al_c151_0 [] E_c151_0 h_c151_0 = true := by decide +kernel
set_option maxRecDepth 1000000 in
theorem ci_c151_0 : e2_idl 3 (al_c151_0.set 5 (9, 0, 0)) = true := by decide +kernel
set_option maxRecDepth 1000000 in
theorem cj_c151_0 : e2_idh 3 8 h_c151_0 = true := by decide +kernel
theorem cs_c151 (hen : en_ok) (l : Launch) (hh : e2_hand_c l) : e2_smOk l 167 s_c151 := by
  refine e2_conG (H := 164) (n := 2) (C := evd_59) (S := S_c151) (I := I_c151) (fuel := 4000) hen ei_59 (e2_fa ((cs_c38 hen l hh).mono (by decide)) (e2_fa (cs_c150 hen l hh) e2_fz)) (e2_fa ein_19 (e2_fa ein_20 (e2_fa ein_60 e2_fz))) (by decide) co_c151 fun M d _ hC hcall p e R s m args below meth c Q D cA A ads r0 ha hl0 => ?_
  have L_0 : e2_gdM M p l e R s m args below meth c Q D cA A ads r0 66 al_c151_0 [] E_c151_0 h_c151_0 := by
    refine e2_indL (u := 3) (j := 5) (lo := 2147483648) (hi := 2147483678) (b := 3) (dd := 0) hl0 (by decide) rfl rfl (Or.inr ⟨rfl, rfl⟩) rfl ci_c151_0 cj_c151_0 ?_
    intro r_0 k_0 hk_0 hp_0 hs_0 hn_0
    have hl_0 : r_0.length ≤ 4 := hs_0.len rfl
    have ha_0 := ha.ext hp_0
    exact e2_fromM hen ha_0 hcall (e2_cutA_ok (e2_fa (fun al st E h hc => hn_0 al st E h hc) e2_fz)) (hC []) (X := e2x_59) ex2_59 66 ck_c151_0
  have EN_0 := e2_entL (u := 3) (j := 5) (lo := 2147483648) (hi := 2147483678) hl0 rfl rfl rfl ci_c151_0 cj_c151_0 L_0
  exact e2_from hen ha hcall (e2_cutA_ok (e2_fa (fun al st E h hc => EN_0 al st E h hc) e2_fz)) (hC []) (X := e2x_59) ex2_59 0 ck_c151_e
/-! c152 X3_parseNot -/
def as_c152 : List ev_V := [(2, 33, 0), (2, 14, 0), (0, 2, 0)]
def E_c152 : e2_E := [(2147483648, 2147583648, 0, 0), (2147483652, 2147483668, 1, 0), (2147483648, 2147485248, 2, 0)]
noncomputable def f_c152 : ev_H := (cn655 : e2_Q8)
noncomputable def q_c152_0 : ev_H := (cn655 : e2_Q8)
noncomputable def rs_c152 : e2_Rs := [((11, 2147483648, 2147483649), q_c152_0)]
noncomputable def s_c152 : e2_Sm := (61, as_c152, E_c152, f_c152, rs_c152)
noncomputable def S_c152 : List e2_Sm := [s_c38, s_c145]
noncomputable def I_c152 : List e2_In := [(19, 2, e2x_19), (20, 2, e2x_20)]
set_option maxRecDepth 1000000 in
theorem ck_c152 : e2_run (e2_cal S_c152 I_c152 4000 2) (e2_fin rs_c152) e2x_61 (fun _ => false) (fun _ _ _ _ _ => false) 4000 (e2_seek e2x_61 0) (e2_al 3 as_c152) [] E_c152 f_c152 = true := by decide +kernel
set_option maxRecDepth 1000000 in
theorem co_c152 : e2_okSB E_c152.length as_c152 f_c152 rs_c152 = true := by decide +kernel
theorem cs_c152 (hen : en_ok) (l : Launch) (hh : e2_hand_c l) : e2_smOk l 154 s_c152 := e2_con0 (H := 151) (n := 2) (C := evd_61) (S := S_c152) (I := I_c152) (fuel := 4000) [] hen ei_61 (e2_fa ((cs_c38 hen l hh).mono (by decide)) (e2_fa (cs_c145 hen l hh) e2_fz)) (e2_fa ein_19 (e2_fa ein_20 e2_fz)) (by decide) co_c152 ex2_61 ck_c152
/-! c153 X3_parseLevel -/
def as_c153 : List ev_V := [(2, 33, 0), (2, 14, 0), (0, 2, 0), (0, 2, 0)]
def E_c153 : e2_E := [(2147483648, 2147583648, 0, 0), (2147483652, 2147483668, 1, 0), (2147483648, 2147485248, 2, 0)]
noncomputable def f_c153 : ev_H := (cn655 : e2_Q8)
noncomputable def q_c153_0 : ev_H := (cn655 : e2_Q8)
noncomputable def rs_c153 : e2_Rs := [((11, 2147483648, 2147483649), q_c153_0)]
noncomputable def s_c153 : e2_Sm := (59, as_c153, E_c153, f_c153, rs_c153)
noncomputable def S_c153 : List e2_Sm := [s_c38, s_c151, s_c152]
noncomputable def I_c153 : List e2_In := [(19, 2, e2x_19), (20, 2, e2x_20), (60, 1, e2x_60)]
set_option maxRecDepth 1000000 in
theorem co_c153 : e2_okSB E_c153.length as_c153 f_c153 rs_c153 = true := by decide +kernel
def al_c153_0 : List ev_V := [(2, 33, 0), (2, 14, 0), (0, 2, 0), (0, 2, 0), (0, 1, 0), (1, 3, 4294967296), (9, 0, 0)]
def E_c153_0 : e2_E := [(2147483648, 2147583648, 0, 0), (2147483652, 2147483668, 1, 0), (2147483648, 2147485248, 2, 0), (2147483648, 2147483649, 3, 0)]
noncomputable def h_c153_0 : ev_H := (cn655 : e2_Q8)
noncomputable def cl_c153_e : List (Nat × e2_S) := [(66, e2_cutL (al_c153_0.set 5 (11, 2147483648, 2147483649)) 3 (E_c153_0.take 3) h_c153_0)]
set_option maxRecDepth 1000000 in
theorem ck_c153_e : e2_run (e2_cal S_c153 I_c153 4000 2) (e2_fin rs_c153) e2x_59 (e2_bpL cl_c153_e) (e2_cutA cl_c153_e) 4000 (e2_seek e2x_59 0) (e2_al 7 as_c153) [] E_c153 f_c153 = true := by decide +kernel
noncomputable def cl_c153_0 : List (Nat × e2_S) := [(66, e2_cutL (al_c153_0.set 5 (13, 11, 2147483649)) 3 (E_c153_0.take 3) h_c153_0)]
set_option maxRecDepth 1000000 in
theorem ck_c153_0 : e2_runM (e2_cal S_c153 I_c153 4000 2) (e2_fin rs_c153) e2x_59 (e2_bpL cl_c153_0) (e2_cutA cl_c153_0) 4000 (e2_seek e2x_59 66) al_c153_0 [] E_c153_0 h_c153_0 = true := by decide +kernel
set_option maxRecDepth 1000000 in
theorem ci_c153_0 : e2_idl 3 (al_c153_0.set 5 (9, 0, 0)) = true := by decide +kernel
set_option maxRecDepth 1000000 in
theorem cj_c153_0 : e2_idh 3 8 h_c153_0 = true := by decide +kernel
theorem cs_c153 (hen : en_ok) (l : Launch) (hh : e2_hand_c l) : e2_smOk l 170 s_c153 := by
  refine e2_conG (H := 167) (n := 2) (C := evd_59) (S := S_c153) (I := I_c153) (fuel := 4000) hen ei_59 (e2_fa ((cs_c38 hen l hh).mono (by decide)) (e2_fa (cs_c151 hen l hh) (e2_fa ((cs_c152 hen l hh).mono (by decide)) e2_fz))) (e2_fa ein_19 (e2_fa ein_20 (e2_fa ein_60 e2_fz))) (by decide) co_c153 fun M d _ hC hcall p e R s m args below meth c Q D cA A ads r0 ha hl0 => ?_
  have L_0 : e2_gdM M p l e R s m args below meth c Q D cA A ads r0 66 al_c153_0 [] E_c153_0 h_c153_0 := by
    refine e2_indL (u := 3) (j := 5) (lo := 2147483648) (hi := 2147483649) (b := 3) (dd := 0) hl0 (by decide) rfl rfl (Or.inr ⟨rfl, rfl⟩) rfl ci_c153_0 cj_c153_0 ?_
    intro r_0 k_0 hk_0 hp_0 hs_0 hn_0
    have hl_0 : r_0.length ≤ 4 := hs_0.len rfl
    have ha_0 := ha.ext hp_0
    exact e2_fromM hen ha_0 hcall (e2_cutA_ok (e2_fa (fun al st E h hc => hn_0 al st E h hc) e2_fz)) (hC []) (X := e2x_59) ex2_59 66 ck_c153_0
  have EN_0 := e2_entL (u := 3) (j := 5) (lo := 2147483648) (hi := 2147483649) hl0 rfl rfl rfl ci_c153_0 cj_c153_0 L_0
  exact e2_from hen ha hcall (e2_cutA_ok (e2_fa (fun al st E h hc => EN_0 al st E h hc) e2_fz)) (hC []) (X := e2x_59) ex2_59 0 ck_c153_e
/-! c154 X3_parseLevel -/
def as_c154 : List ev_V := [(2, 33, 0), (2, 14, 0), (0, 1, 0), (0, 2, 0)]
def E_c154 : e2_E := [(2147483648, 2147583648, 0, 0), (2147483652, 2147483668, 1, 0), (2147483648, 2147485248, 2, 0)]
noncomputable def f_c154 : ev_H := (cn655 : e2_Q8)
noncomputable def q_c154_0 : ev_H := (cn655 : e2_Q8)
noncomputable def rs_c154 : e2_Rs := [((11, 2147483648, 2147483649), q_c154_0)]
noncomputable def s_c154 : e2_Sm := (59, as_c154, E_c154, f_c154, rs_c154)
noncomputable def S_c154 : List e2_Sm := [s_c38, s_c153]
noncomputable def I_c154 : List e2_In := [(19, 2, e2x_19), (20, 2, e2x_20), (60, 1, e2x_60)]
set_option maxRecDepth 1000000 in
theorem co_c154 : e2_okSB E_c154.length as_c154 f_c154 rs_c154 = true := by decide +kernel
def al_c154_0 : List ev_V := [(2, 33, 0), (2, 14, 0), (0, 1, 0), (0, 2, 0), (0, 30, 0), (1, 3, 4294967296), (9, 0, 0)]
def E_c154_0 : e2_E := [(2147483648, 2147583648, 0, 0), (2147483652, 2147483668, 1, 0), (2147483648, 2147485248, 2, 0), (2147483648, 2147483678, 3, 0)]
noncomputable def h_c154_0 : ev_H := (cn655 : e2_Q8)
noncomputable def cl_c154_e : List (Nat × e2_S) := [(66, e2_cutL (al_c154_0.set 5 (11, 2147483648, 2147483678)) 3 (E_c154_0.take 3) h_c154_0)]
set_option maxRecDepth 1000000 in
theorem ck_c154_e : e2_run (e2_cal S_c154 I_c154 4000 2) (e2_fin rs_c154) e2x_59 (e2_bpL cl_c154_e) (e2_cutA cl_c154_e) 4000 (e2_seek e2x_59 0) (e2_al 7 as_c154) [] E_c154 f_c154 = true := by decide +kernel
noncomputable def cl_c154_0 : List (Nat × e2_S) := [(66, e2_cutL (al_c154_0.set 5 (13, 11, 2147483678)) 3 (E_c154_0.take 3) h_c154_0)]
set_option maxRecDepth 1000000 in
theorem ck_c154_0 : e2_runM (e2_cal S_c154 I_c154 4000 2) (e2_fin rs_c154) e2x_59 (e2_bpL cl_c154_0) (e2_cutA cl_c154_0) 4000 (e2_seek e2x_59 66) al_c154_0 [] E_c154_0 h_c154_0 = true := by decide +kernel
set_option maxRecDepth 1000000 in
theorem ci_c154_0 : e2_idl 3 (al_c154_0.set 5 (9, 0, 0)) = true := by decide +kernel
set_option maxRecDepth 1000000 in
theorem cj_c154_0 : e2_idh 3 8 h_c154_0 = true := by decide +kernel
theorem cs_c154 (hen : en_ok) (l : Launch) (hh : e2_hand_c l) : e2_smOk l 173 s_c154 := by
  refine e2_conG (H := 170) (n := 2) (C := evd_59) (S := S_c154) (I := I_c154) (fuel := 4000) hen ei_59 (e2_fa ((cs_c38 hen l hh).mono (by decide)) (e2_fa (cs_c153 hen l hh) e2_fz)) (e2_fa ein_19 (e2_fa ein_20 (e2_fa ein_60 e2_fz))) (by decide) co_c154 fun M d _ hC hcall p e R s m args below meth c Q D cA A ads r0 ha hl0 => ?_
  have L_0 : e2_gdM M p l e R s m args below meth c Q D cA A ads r0 66 al_c154_0 [] E_c154_0 h_c154_0 := by
    refine e2_indL (u := 3) (j := 5) (lo := 2147483648) (hi := 2147483678) (b := 3) (dd := 0) hl0 (by decide) rfl rfl (Or.inr ⟨rfl, rfl⟩) rfl ci_c154_0 cj_c154_0 ?_
    intro r_0 k_0 hk_0 hp_0 hs_0 hn_0
    have hl_0 : r_0.length ≤ 4 := hs_0.len rfl
    have ha_0 := ha.ext hp_0
    exact e2_fromM hen ha_0 hcall (e2_cutA_ok (e2_fa (fun al st E h hc => hn_0 al st E h hc) e2_fz)) (hC []) (X := e2x_59) ex2_59 66 ck_c154_0
  have EN_0 := e2_entL (u := 3) (j := 5) (lo := 2147483648) (hi := 2147483678) hl0 rfl rfl rfl ci_c154_0 cj_c154_0 L_0
  exact e2_from hen ha hcall (e2_cutA_ok (e2_fa (fun al st E h hc => EN_0 al st E h hc) e2_fz)) (hC []) (X := e2x_59) ex2_59 0 ck_c154_e
/-! c155 X3_parseLevel -/
def as_c155 : List ev_V := [(2, 33, 0), (2, 14, 0), (0, 0, 0), (0, 2, 0)]
def E_c155 : e2_E := [(2147483648, 2147583648, 0, 0), (2147483652, 2147483668, 1, 0), (2147483648, 2147485248, 2, 0)]
noncomputable def f_c155 : ev_H := (cn655 : e2_Q8)
noncomputable def q_c155_0 : ev_H := (cn655 : e2_Q8)
noncomputable def rs_c155 : e2_Rs := [((11, 2147483648, 2147483649), q_c155_0)]
noncomputable def s_c155 : e2_Sm := (59, as_c155, E_c155, f_c155, rs_c155)
noncomputable def S_c155 : List e2_Sm := [s_c38, s_c154]
noncomputable def I_c155 : List e2_In := [(19, 2, e2x_19), (20, 2, e2x_20), (60, 1, e2x_60)]
set_option maxRecDepth 1000000 in
theorem co_c155 : e2_okSB E_c155.length as_c155 f_c155 rs_c155 = true := by decide +kernel
def al_c155_0 : List ev_V := [(2, 33, 0), (2, 14, 0), (0, 0, 0), (0, 2, 0), (0, 30, 0), (1, 3, 4294967296), (9, 0, 0)]
def E_c155_0 : e2_E := [(2147483648, 2147583648, 0, 0), (2147483652, 2147483668, 1, 0), (2147483648, 2147485248, 2, 0), (2147483648, 2147483678, 3, 0)]
noncomputable def h_c155_0 : ev_H := (cn655 : e2_Q8)
noncomputable def cl_c155_e : List (Nat × e2_S) := [(66, e2_cutL (al_c155_0.set 5 (11, 2147483648, 2147483678)) 3 (E_c155_0.take 3) h_c155_0)]
set_option maxRecDepth 1000000 in
theorem ck_c155_e : e2_run (e2_cal S_c155 I_c155 4000 2) (e2_fin rs_c155) e2x_59 (e2_bpL cl_c155_e) (e2_cutA cl_c155_e) 4000 (e2_seek e2x_59 0) (e2_al 7 as_c155) [] E_c155 f_c155 = true := by decide +kernel
noncomputable def cl_c155_0 : List (Nat × e2_S) := [(66, e2_cutL (al_c155_0.set 5 (13, 11, 2147483678)) 3 (E_c155_0.take 3) h_c155_0)]
set_option maxRecDepth 1000000 in
theorem ck_c155_0 : e2_runM (e2_cal S_c155 I_c155 4000 2) (e2_fin rs_c155) e2x_59 (e2_bpL cl_c155_0) (e2_cutA cl_c155_0) 4000 (e2_seek e2x_59 66) al_c155_0 [] E_c155_0 h_c155_0 = true := by decide +kernel
set_option maxRecDepth 1000000 in
theorem ci_c155_0 : e2_idl 3 (al_c155_0.set 5 (9, 0, 0)) = true := by decide +kernel
set_option maxRecDepth 1000000 in
theorem cj_c155_0 : e2_idh 3 8 h_c155_0 = true := by decide +kernel
theorem cs_c155 (hen : en_ok) (l : Launch) (hh : e2_hand_c l) : e2_smOk l 176 s_c155 := by
  refine e2_conG (H := 173) (n := 2) (C := evd_59) (S := S_c155) (I := I_c155) (fuel := 4000) hen ei_59 (e2_fa ((cs_c38 hen l hh).mono (by decide)) (e2_fa (cs_c154 hen l hh) e2_fz)) (e2_fa ein_19 (e2_fa ein_20 (e2_fa ein_60 e2_fz))) (by decide) co_c155 fun M d _ hC hcall p e R s m args below meth c Q D cA A ads r0 ha hl0 => ?_
  have L_0 : e2_gdM M p l e R s m args below meth c Q D cA A ads r0 66 al_c155_0 [] E_c155_0 h_c155_0 := by
    refine e2_indL (u := 3) (j := 5) (lo := 2147483648) (hi := 2147483678) (b := 3) (dd := 0) hl0 (by decide) rfl rfl (Or.inr ⟨rfl, rfl⟩) rfl ci_c155_0 cj_c155_0 ?_
    intro r_0 k_0 hk_0 hp_0 hs_0 hn_0
    have hl_0 : r_0.length ≤ 4 := hs_0.len rfl
    have ha_0 := ha.ext hp_0
    exact e2_fromM hen ha_0 hcall (e2_cutA_ok (e2_fa (fun al st E h hc => hn_0 al st E h hc) e2_fz)) (hC []) (X := e2x_59) ex2_59 66 ck_c155_0
  have EN_0 := e2_entL (u := 3) (j := 5) (lo := 2147483648) (hi := 2147483678) hl0 rfl rfl rfl ci_c155_0 cj_c155_0 L_0
  exact e2_from hen ha hcall (e2_cutA_ok (e2_fa (fun al st E h hc => EN_0 al st E h hc) e2_fz)) (hC []) (X := e2x_59) ex2_59 0 ck_c155_e
/-! c156 X3_parseUnit -/
def as_c156 : List ev_V := [(2, 33, 0), (2, 14, 0), (0, 1, 0)]
def E_c156 : e2_E := [(2147483648, 2147583648, 0, 0), (2147483652, 2147483668, 1, 0), (2147483648, 2147485248, 2, 0)]
noncomputable def f_c156 : ev_H := (cn655 : e2_Q8)
noncomputable def q_c156_0 : ev_H := (cn655 : e2_Q8)
noncomputable def rs_c156 : e2_Rs := [((11, 2147483648, 2147483649), q_c156_0)]
noncomputable def s_c156 : e2_Sm := (62, as_c156, E_c156, f_c156, rs_c156)
noncomputable def S_c156 : List e2_Sm := [s_c38, s_c39, s_c155]
noncomputable def I_c156 : List e2_In := [(18, 2, e2x_18), (19, 2, e2x_19), (20, 2, e2x_20), (43, 2, e2x_43), (44, 3, e2x_44)]
set_option maxRecDepth 1000000 in
theorem ck_c156 : e2_run (e2_cal S_c156 I_c156 4000 2) (e2_fin rs_c156) e2x_62 (fun _ => false) (fun _ _ _ _ _ => false) 4000 (e2_seek e2x_62 0) (e2_al 7 as_c156) [] E_c156 f_c156 = true := by decide +kernel
set_option maxRecDepth 1000000 in
theorem co_c156 : e2_okSB E_c156.length as_c156 f_c156 rs_c156 = true := by decide +kernel
theorem cs_c156 (hen : en_ok) (l : Launch) (hh : e2_hand_c l) : e2_smOk l 179 s_c156 := e2_con0 (H := 176) (n := 2) (C := evd_62) (S := S_c156) (I := I_c156) (fuel := 4000) [] hen ei_62 (e2_fa ((cs_c38 hen l hh).mono (by decide)) (e2_fa ((cs_c39 hen l hh).mono (by decide)) (e2_fa (cs_c155 hen l hh) e2_fz))) (e2_fa ein_18 (e2_fa ein_19 (e2_fa ein_20 (e2_fa ein_43 (e2_fa ein_44 e2_fz))))) (by decide) co_c156 ex2_62 ck_c156
/-! c157 X3_parseLevel -/
def as_c157 : List ev_V := [(2, 33, 0), (2, 14, 0), (0, 5, 0), (0, 1, 0)]
def E_c157 : e2_E := [(2147483648, 2147583648, 0, 0), (2147483652, 2147483668, 1, 0), (2147483648, 2147485248, 2, 0)]
noncomputable def f_c157 : ev_H := (cn655 : e2_Q8)
noncomputable def q_c157_0 : ev_H := (cn655 : e2_Q8)
noncomputable def rs_c157 : e2_Rs := [((11, 2147483648, 2147483649), q_c157_0)]
noncomputable def s_c157 : e2_Sm := (59, as_c157, E_c157, f_c157, rs_c157)
noncomputable def S_c157 : List e2_Sm := [s_c156]
noncomputable def I_c157 : List e2_In := []
set_option maxRecDepth 1000000 in
theorem ck_c157 : e2_run (e2_cal S_c157 I_c157 4000 0) (e2_fin rs_c157) e2x_59 (fun _ => false) (fun _ _ _ _ _ => false) 4000 (e2_seek e2x_59 0) (e2_al 7 as_c157) [] E_c157 f_c157 = true := by decide +kernel
set_option maxRecDepth 1000000 in
theorem co_c157 : e2_okSB E_c157.length as_c157 f_c157 rs_c157 = true := by decide +kernel
theorem cs_c157 (hen : en_ok) (l : Launch) (hh : e2_hand_c l) : e2_smOk l 180 s_c157 := e2_con0 (H := 179) (n := 0) (C := evd_59) (S := S_c157) (I := I_c157) (fuel := 4000) [] hen ei_59 (e2_fa (cs_c156 hen l hh) e2_fz) e2_fz (by decide) co_c157 ex2_59 ck_c157
/-! c158 X3_parseLevel -/
def as_c158 : List ev_V := [(2, 33, 0), (2, 14, 0), (0, 4, 0), (0, 1, 0)]
def E_c158 : e2_E := [(2147483648, 2147583648, 0, 0), (2147483652, 2147483668, 1, 0), (2147483648, 2147485248, 2, 0)]
noncomputable def f_c158 : ev_H := (cn655 : e2_Q8)
noncomputable def q_c158_0 : ev_H := (cn655 : e2_Q8)
noncomputable def rs_c158 : e2_Rs := [((11, 2147483648, 2147483649), q_c158_0)]
noncomputable def s_c158 : e2_Sm := (59, as_c158, E_c158, f_c158, rs_c158)
noncomputable def S_c158 : List e2_Sm := [s_c38, s_c157]
noncomputable def I_c158 : List e2_In := [(19, 2, e2x_19), (20, 2, e2x_20), (60, 1, e2x_60)]
set_option maxRecDepth 1000000 in
theorem co_c158 : e2_okSB E_c158.length as_c158 f_c158 rs_c158 = true := by decide +kernel
def al_c158_0 : List ev_V := [(2, 33, 0), (2, 14, 0), (0, 4, 0), (0, 1, 0), (0, 30, 0), (1, 3, 4294967296), (9, 0, 0)]
def E_c158_0 : e2_E := [(2147483648, 2147583648, 0, 0), (2147483652, 2147483668, 1, 0), (2147483648, 2147485248, 2, 0), (2147483648, 2147483678, 3, 0)]
noncomputable def h_c158_0 : ev_H := (cn655 : e2_Q8)
noncomputable def cl_c158_e : List (Nat × e2_S) := [(66, e2_cutL (al_c158_0.set 5 (11, 2147483648, 2147483678)) 3 (E_c158_0.take 3) h_c158_0)]
set_option maxRecDepth 1000000 in
theorem ck_c158_e : e2_run (e2_cal S_c158 I_c158 4000 2) (e2_fin rs_c158) e2x_59 (e2_bpL cl_c158_e) (e2_cutA cl_c158_e) 4000 (e2_seek e2x_59 0) (e2_al 7 as_c158) [] E_c158 f_c158 = true := by decide +kernel
noncomputable def cl_c158_0 : List (Nat × e2_S) := [(66, e2_cutL (al_c158_0.set 5 (13, 11, 2147483678)) 3 (E_c158_0.take 3) h_c158_0)]
set_option maxRecDepth 1000000 in
theorem ck_c158_0 : e2_runM (e2_cal S_c158 I_c158 4000 2) (e2_fin rs_c158) e2x_59 (e2_bpL cl_c158_0) (e2_cutA cl_c158_0) 4000 (e2_seek e2x_59 66) al_c158_0 [] E_c158_0 h_c158_0 = true := by decide +kernel
set_option maxRecDepth 1000000 in
theorem ci_c158_0 : e2_idl 3 (al_c158_0.set 5 (9, 0, 0)) = true := by decide +kernel
set_option maxRecDepth 1000000 in
theorem cj_c158_0 : e2_idh 3 8 h_c158_0 = true := by decide +kernel
theorem cs_c158 (hen : en_ok) (l : Launch) (hh : e2_hand_c l) : e2_smOk l 183 s_c158 := by
  refine e2_conG (H := 180) (n := 2) (C := evd_59) (S := S_c158) (I := I_c158) (fuel := 4000) hen ei_59 (e2_fa ((cs_c38 hen l hh).mono (by decide)) (e2_fa (cs_c157 hen l hh) e2_fz)) (e2_fa ein_19 (e2_fa ein_20 (e2_fa ein_60 e2_fz))) (by decide) co_c158 fun M d _ hC hcall p e R s m args below meth c Q D cA A ads r0 ha hl0 => ?_
  have L_0 : e2_gdM M p l e R s m args below meth c Q D cA A ads r0 66 al_c158_0 [] E_c158_0 h_c158_0 := by
    refine e2_indL (u := 3) (j := 5) (lo := 2147483648) (hi := 2147483678) (b := 3) (dd := 0) hl0 (by decide) rfl rfl (Or.inr ⟨rfl, rfl⟩) rfl ci_c158_0 cj_c158_0 ?_
    intro r_0 k_0 hk_0 hp_0 hs_0 hn_0
    have hl_0 : r_0.length ≤ 4 := hs_0.len rfl
    have ha_0 := ha.ext hp_0
    exact e2_fromM hen ha_0 hcall (e2_cutA_ok (e2_fa (fun al st E h hc => hn_0 al st E h hc) e2_fz)) (hC []) (X := e2x_59) ex2_59 66 ck_c158_0
  have EN_0 := e2_entL (u := 3) (j := 5) (lo := 2147483648) (hi := 2147483678) hl0 rfl rfl rfl ci_c158_0 cj_c158_0 L_0
  exact e2_from hen ha hcall (e2_cutA_ok (e2_fa (fun al st E h hc => EN_0 al st E h hc) e2_fz)) (hC []) (X := e2x_59) ex2_59 0 ck_c158_e
/-! c159 X3_parseLevel -/
def as_c159 : List ev_V := [(2, 33, 0), (2, 14, 0), (0, 3, 0), (0, 1, 0)]
def E_c159 : e2_E := [(2147483648, 2147583648, 0, 0), (2147483652, 2147483668, 1, 0), (2147483648, 2147485248, 2, 0)]
noncomputable def f_c159 : ev_H := (cn655 : e2_Q8)
noncomputable def q_c159_0 : ev_H := (cn655 : e2_Q8)
noncomputable def rs_c159 : e2_Rs := [((11, 2147483648, 2147483649), q_c159_0)]
noncomputable def s_c159 : e2_Sm := (59, as_c159, E_c159, f_c159, rs_c159)
noncomputable def S_c159 : List e2_Sm := [s_c38, s_c158]
noncomputable def I_c159 : List e2_In := [(19, 2, e2x_19), (20, 2, e2x_20), (60, 1, e2x_60)]
set_option maxRecDepth 1000000 in
theorem co_c159 : e2_okSB E_c159.length as_c159 f_c159 rs_c159 = true := by decide +kernel
def al_c159_0 : List ev_V := [(2, 33, 0), (2, 14, 0), (0, 3, 0), (0, 1, 0), (0, 30, 0), (1, 3, 4294967296), (9, 0, 0)]
def E_c159_0 : e2_E := [(2147483648, 2147583648, 0, 0), (2147483652, 2147483668, 1, 0), (2147483648, 2147485248, 2, 0), (2147483648, 2147483678, 3, 0)]
noncomputable def h_c159_0 : ev_H := (cn655 : e2_Q8)
noncomputable def cl_c159_e : List (Nat × e2_S) := [(66, e2_cutL (al_c159_0.set 5 (11, 2147483648, 2147483678)) 3 (E_c159_0.take 3) h_c159_0)]
set_option maxRecDepth 1000000 in
theorem ck_c159_e : e2_run (e2_cal S_c159 I_c159 4000 2) (e2_fin rs_c159) e2x_59 (e2_bpL cl_c159_e) (e2_cutA cl_c159_e) 4000 (e2_seek e2x_59 0) (e2_al 7 as_c159) [] E_c159 f_c159 = true := by decide +kernel
noncomputable def cl_c159_0 : List (Nat × e2_S) := [(66, e2_cutL (al_c159_0.set 5 (13, 11, 2147483678)) 3 (E_c159_0.take 3) h_c159_0)]
set_option maxRecDepth 1000000 in
theorem ck_c159_0 : e2_runM (e2_cal S_c159 I_c159 4000 2) (e2_fin rs_c159) e2x_59 (e2_bpL cl_c159_0) (e2_cutA cl_c159_0) 4000 (e2_seek e2x_59 66) al_c159_0 [] E_c159_0 h_c159_0 = true := by decide +kernel
set_option maxRecDepth 1000000 in
theorem ci_c159_0 : e2_idl 3 (al_c159_0.set 5 (9, 0, 0)) = true := by decide +kernel
set_option maxRecDepth 1000000 in
theorem cj_c159_0 : e2_idh 3 8 h_c159_0 = true := by decide +kernel
theorem cs_c159 (hen : en_ok) (l : Launch) (hh : e2_hand_c l) : e2_smOk l 186 s_c159 := by
  refine e2_conG (H := 183) (n := 2) (C := evd_59) (S := S_c159) (I := I_c159) (fuel := 4000) hen ei_59 (e2_fa ((cs_c38 hen l hh).mono (by decide)) (e2_fa (cs_c158 hen l hh) e2_fz)) (e2_fa ein_19 (e2_fa ein_20 (e2_fa ein_60 e2_fz))) (by decide) co_c159 fun M d _ hC hcall p e R s m args below meth c Q D cA A ads r0 ha hl0 => ?_
  have L_0 : e2_gdM M p l e R s m args below meth c Q D cA A ads r0 66 al_c159_0 [] E_c159_0 h_c159_0 := by
    refine e2_indL (u := 3) (j := 5) (lo := 2147483648) (hi := 2147483678) (b := 3) (dd := 0) hl0 (by decide) rfl rfl (Or.inr ⟨rfl, rfl⟩) rfl ci_c159_0 cj_c159_0 ?_
    intro r_0 k_0 hk_0 hp_0 hs_0 hn_0
    have hl_0 : r_0.length ≤ 4 := hs_0.len rfl
    have ha_0 := ha.ext hp_0
    exact e2_fromM hen ha_0 hcall (e2_cutA_ok (e2_fa (fun al st E h hc => hn_0 al st E h hc) e2_fz)) (hC []) (X := e2x_59) ex2_59 66 ck_c159_0
  have EN_0 := e2_entL (u := 3) (j := 5) (lo := 2147483648) (hi := 2147483678) hl0 rfl rfl rfl ci_c159_0 cj_c159_0 L_0
  exact e2_from hen ha hcall (e2_cutA_ok (e2_fa (fun al st E h hc => EN_0 al st E h hc) e2_fz)) (hC []) (X := e2x_59) ex2_59 0 ck_c159_e
/-! c160 X3_parseNot -/
def as_c160 : List ev_V := [(2, 33, 0), (2, 14, 0), (0, 1, 0)]
def E_c160 : e2_E := [(2147483648, 2147583648, 0, 0), (2147483652, 2147483668, 1, 0), (2147483648, 2147485248, 2, 0)]
noncomputable def f_c160 : ev_H := (cn655 : e2_Q8)
noncomputable def q_c160_0 : ev_H := (cn655 : e2_Q8)
noncomputable def rs_c160 : e2_Rs := [((11, 2147483648, 2147483649), q_c160_0)]
noncomputable def s_c160 : e2_Sm := (61, as_c160, E_c160, f_c160, rs_c160)
noncomputable def S_c160 : List e2_Sm := [s_c38, s_c153]
noncomputable def I_c160 : List e2_In := [(19, 2, e2x_19), (20, 2, e2x_20)]
set_option maxRecDepth 1000000 in
theorem ck_c160 : e2_run (e2_cal S_c160 I_c160 4000 2) (e2_fin rs_c160) e2x_61 (fun _ => false) (fun _ _ _ _ _ => false) 4000 (e2_seek e2x_61 0) (e2_al 3 as_c160) [] E_c160 f_c160 = true := by decide +kernel
set_option maxRecDepth 1000000 in
theorem co_c160 : e2_okSB E_c160.length as_c160 f_c160 rs_c160 = true := by decide +kernel
theorem cs_c160 (hen : en_ok) (l : Launch) (hh : e2_hand_c l) : e2_smOk l 173 s_c160 := e2_con0 (H := 170) (n := 2) (C := evd_61) (S := S_c160) (I := I_c160) (fuel := 4000) [] hen ei_61 (e2_fa ((cs_c38 hen l hh).mono (by decide)) (e2_fa (cs_c153 hen l hh) e2_fz)) (e2_fa ein_19 (e2_fa ein_20 e2_fz)) (by decide) co_c160 ex2_61 ck_c160
/-! c161 X3_parseLevel -/
def as_c161 : List ev_V := [(2, 33, 0), (2, 14, 0), (0, 2, 0), (0, 1, 0)]
def E_c161 : e2_E := [(2147483648, 2147583648, 0, 0), (2147483652, 2147483668, 1, 0), (2147483648, 2147485248, 2, 0)]
noncomputable def f_c161 : ev_H := (cn655 : e2_Q8)
noncomputable def q_c161_0 : ev_H := (cn655 : e2_Q8)
noncomputable def rs_c161 : e2_Rs := [((11, 2147483648, 2147483649), q_c161_0)]
noncomputable def s_c161 : e2_Sm := (59, as_c161, E_c161, f_c161, rs_c161)
noncomputable def S_c161 : List e2_Sm := [s_c38, s_c159, s_c160]
noncomputable def I_c161 : List e2_In := [(19, 2, e2x_19), (20, 2, e2x_20), (60, 1, e2x_60)]
set_option maxRecDepth 1000000 in
theorem co_c161 : e2_okSB E_c161.length as_c161 f_c161 rs_c161 = true := by decide +kernel
def al_c161_0 : List ev_V := [(2, 33, 0), (2, 14, 0), (0, 2, 0), (0, 1, 0), (0, 1, 0), (1, 3, 4294967296), (9, 0, 0)]
def E_c161_0 : e2_E := [(2147483648, 2147583648, 0, 0), (2147483652, 2147483668, 1, 0), (2147483648, 2147485248, 2, 0), (2147483648, 2147483649, 3, 0)]
noncomputable def h_c161_0 : ev_H := (cn655 : e2_Q8)
noncomputable def cl_c161_e : List (Nat × e2_S) := [(66, e2_cutL (al_c161_0.set 5 (11, 2147483648, 2147483649)) 3 (E_c161_0.take 3) h_c161_0)]
set_option maxRecDepth 1000000 in
theorem ck_c161_e : e2_run (e2_cal S_c161 I_c161 4000 2) (e2_fin rs_c161) e2x_59 (e2_bpL cl_c161_e) (e2_cutA cl_c161_e) 4000 (e2_seek e2x_59 0) (e2_al 7 as_c161) [] E_c161 f_c161 = true := by decide +kernel
noncomputable def cl_c161_0 : List (Nat × e2_S) := [(66, e2_cutL (al_c161_0.set 5 (13, 11, 2147483649)) 3 (E_c161_0.take 3) h_c161_0)]
set_option maxRecDepth 1000000 in
theorem ck_c161_0 : e2_runM (e2_cal S_c161 I_c161 4000 2) (e2_fin rs_c161) e2x_59 (e2_bpL cl_c161_0) (e2_cutA cl_c161_0) 4000 (e2_seek e2x_59 66) al_c161_0 [] E_c161_0 h_c161_0 = true := by decide +kernel
set_option maxRecDepth 1000000 in
theorem ci_c161_0 : e2_idl 3 (al_c161_0.set 5 (9, 0, 0)) = true := by decide +kernel
set_option maxRecDepth 1000000 in
theorem cj_c161_0 : e2_idh 3 8 h_c161_0 = true := by decide +kernel
theorem cs_c161 (hen : en_ok) (l : Launch) (hh : e2_hand_c l) : e2_smOk l 189 s_c161 := by
  refine e2_conG (H := 186) (n := 2) (C := evd_59) (S := S_c161) (I := I_c161) (fuel := 4000) hen ei_59 (e2_fa ((cs_c38 hen l hh).mono (by decide)) (e2_fa (cs_c159 hen l hh) (e2_fa ((cs_c160 hen l hh).mono (by decide)) e2_fz))) (e2_fa ein_19 (e2_fa ein_20 (e2_fa ein_60 e2_fz))) (by decide) co_c161 fun M d _ hC hcall p e R s m args below meth c Q D cA A ads r0 ha hl0 => ?_
  have L_0 : e2_gdM M p l e R s m args below meth c Q D cA A ads r0 66 al_c161_0 [] E_c161_0 h_c161_0 := by
    refine e2_indL (u := 3) (j := 5) (lo := 2147483648) (hi := 2147483649) (b := 3) (dd := 0) hl0 (by decide) rfl rfl (Or.inr ⟨rfl, rfl⟩) rfl ci_c161_0 cj_c161_0 ?_
    intro r_0 k_0 hk_0 hp_0 hs_0 hn_0
    have hl_0 : r_0.length ≤ 4 := hs_0.len rfl
    have ha_0 := ha.ext hp_0
    exact e2_fromM hen ha_0 hcall (e2_cutA_ok (e2_fa (fun al st E h hc => hn_0 al st E h hc) e2_fz)) (hC []) (X := e2x_59) ex2_59 66 ck_c161_0
  have EN_0 := e2_entL (u := 3) (j := 5) (lo := 2147483648) (hi := 2147483649) hl0 rfl rfl rfl ci_c161_0 cj_c161_0 L_0
  exact e2_from hen ha hcall (e2_cutA_ok (e2_fa (fun al st E h hc => EN_0 al st E h hc) e2_fz)) (hC []) (X := e2x_59) ex2_59 0 ck_c161_e
/-! c162 X3_parseLevel -/
def as_c162 : List ev_V := [(2, 33, 0), (2, 14, 0), (0, 1, 0), (0, 1, 0)]
def E_c162 : e2_E := [(2147483648, 2147583648, 0, 0), (2147483652, 2147483668, 1, 0), (2147483648, 2147485248, 2, 0)]
noncomputable def f_c162 : ev_H := (cn655 : e2_Q8)
noncomputable def q_c162_0 : ev_H := (cn655 : e2_Q8)
noncomputable def rs_c162 : e2_Rs := [((11, 2147483648, 2147483649), q_c162_0)]
noncomputable def s_c162 : e2_Sm := (59, as_c162, E_c162, f_c162, rs_c162)
noncomputable def S_c162 : List e2_Sm := [s_c38, s_c161]
noncomputable def I_c162 : List e2_In := [(19, 2, e2x_19), (20, 2, e2x_20), (60, 1, e2x_60)]
set_option maxRecDepth 1000000 in
theorem co_c162 : e2_okSB E_c162.length as_c162 f_c162 rs_c162 = true := by decide +kernel
def al_c162_0 : List ev_V := [(2, 33, 0), (2, 14, 0), (0, 1, 0), (0, 1, 0), (0, 30, 0), (1, 3, 4294967296), (9, 0, 0)]
def E_c162_0 : e2_E := [(2147483648, 2147583648, 0, 0), (2147483652, 2147483668, 1, 0), (2147483648, 2147485248, 2, 0), (2147483648, 2147483678, 3, 0)]
noncomputable def h_c162_0 : ev_H := (cn655 : e2_Q8)
noncomputable def cl_c162_e : List (Nat × e2_S) := [(66, e2_cutL (al_c162_0.set 5 (11, 2147483648, 2147483678)) 3 (E_c162_0.take 3) h_c162_0)]
set_option maxRecDepth 1000000 in
theorem ck_c162_e : e2_run (e2_cal S_c162 I_c162 4000 2) (e2_fin rs_c162) e2x_59 (e2_bpL cl_c162_e) (e2_cutA cl_c162_e) 4000 (e2_seek e2x_59 0) (e2_al 7 as_c162) [] E_c162 f_c162 = true := by decide +kernel
noncomputable def cl_c162_0 : List (Nat × e2_S) := [(66, e2_cutL (al_c162_0.set 5 (13, 11, 2147483678)) 3 (E_c162_0.take 3) h_c162_0)]
set_option maxRecDepth 1000000 in
theorem ck_c162_0 : e2_runM (e2_cal S_c162 I_c162 4000 2) (e2_fin rs_c162) e2x_59 (e2_bpL cl_c162_0) (e2_cutA cl_c162_0) 4000 (e2_seek e2x_59 66) al_c162_0 [] E_c162_0 h_c162_0 = true := by decide +kernel
set_option maxRecDepth 1000000 in
theorem ci_c162_0 : e2_idl 3 (al_c162_0.set 5 (9, 0, 0)) = true := by decide +kernel
set_option maxRecDepth 1000000 in
theorem cj_c162_0 : e2_idh 3 8 h_c162_0 = true := by decide +kernel
theorem cs_c162 (hen : en_ok) (l : Launch) (hh : e2_hand_c l) : e2_smOk l 192 s_c162 := by
  refine e2_conG (H := 189) (n := 2) (C := evd_59) (S := S_c162) (I := I_c162) (fuel := 4000) hen ei_59 (e2_fa ((cs_c38 hen l hh).mono (by decide)) (e2_fa (cs_c161 hen l hh) e2_fz)) (e2_fa ein_19 (e2_fa ein_20 (e2_fa ein_60 e2_fz))) (by decide) co_c162 fun M d _ hC hcall p e R s m args below meth c Q D cA A ads r0 ha hl0 => ?_
  have L_0 : e2_gdM M p l e R s m args below meth c Q D cA A ads r0 66 al_c162_0 [] E_c162_0 h_c162_0 := by
    refine e2_indL (u := 3) (j := 5) (lo := 2147483648) (hi := 2147483678) (b := 3) (dd := 0) hl0 (by decide) rfl rfl (Or.inr ⟨rfl, rfl⟩) rfl ci_c162_0 cj_c162_0 ?_
    intro r_0 k_0 hk_0 hp_0 hs_0 hn_0
    have hl_0 : r_0.length ≤ 4 := hs_0.len rfl
    have ha_0 := ha.ext hp_0
    exact e2_fromM hen ha_0 hcall (e2_cutA_ok (e2_fa (fun al st E h hc => hn_0 al st E h hc) e2_fz)) (hC []) (X := e2x_59) ex2_59 66 ck_c162_0
  have EN_0 := e2_entL (u := 3) (j := 5) (lo := 2147483648) (hi := 2147483678) hl0 rfl rfl rfl ci_c162_0 cj_c162_0 L_0
  exact e2_from hen ha hcall (e2_cutA_ok (e2_fa (fun al st E h hc => EN_0 al st E h hc) e2_fz)) (hC []) (X := e2x_59) ex2_59 0 ck_c162_e
/-! c163 X3_parseLevel -/
def as_c163 : List ev_V := [(2, 33, 0), (2, 14, 0), (0, 0, 0), (0, 1, 0)]
def E_c163 : e2_E := [(2147483648, 2147583648, 0, 0), (2147483652, 2147483668, 1, 0), (2147483648, 2147485248, 2, 0)]
noncomputable def f_c163 : ev_H := (cn655 : e2_Q8)
noncomputable def q_c163_0 : ev_H := (cn655 : e2_Q8)
noncomputable def rs_c163 : e2_Rs := [((11, 2147483648, 2147483649), q_c163_0)]
noncomputable def s_c163 : e2_Sm := (59, as_c163, E_c163, f_c163, rs_c163)
noncomputable def S_c163 : List e2_Sm := [s_c38, s_c162]
noncomputable def I_c163 : List e2_In := [(19, 2, e2x_19), (20, 2, e2x_20), (60, 1, e2x_60)]
set_option maxRecDepth 1000000 in
theorem co_c163 : e2_okSB E_c163.length as_c163 f_c163 rs_c163 = true := by decide +kernel
def al_c163_0 : List ev_V := [(2, 33, 0), (2, 14, 0), (0, 0, 0), (0, 1, 0), (0, 30, 0), (1, 3, 4294967296), (9, 0, 0)]
def E_c163_0 : e2_E := [(2147483648, 2147583648, 0, 0), (2147483652, 2147483668, 1, 0), (2147483648, 2147485248, 2, 0), (2147483648, 2147483678, 3, 0)]
noncomputable def h_c163_0 : ev_H := (cn655 : e2_Q8)
noncomputable def cl_c163_e : List (Nat × e2_S) := [(66, e2_cutL (al_c163_0.set 5 (11, 2147483648, 2147483678)) 3 (E_c163_0.take 3) h_c163_0)]
set_option maxRecDepth 1000000 in
theorem ck_c163_e : e2_run (e2_cal S_c163 I_c163 4000 2) (e2_fin rs_c163) e2x_59 (e2_bpL cl_c163_e) (e2_cutA cl_c163_e) 4000 (e2_seek e2x_59 0) (e2_al 7 as_c163) [] E_c163 f_c163 = true := by decide +kernel
noncomputable def cl_c163_0 : List (Nat × e2_S) := [(66, e2_cutL (al_c163_0.set 5 (13, 11, 2147483678)) 3 (E_c163_0.take 3) h_c163_0)]
set_option maxRecDepth 1000000 in
theorem ck_c163_0 : e2_runM (e2_cal S_c163 I_c163 4000 2) (e2_fin rs_c163) e2x_59 (e2_bpL cl_c163_0) (e2_cutA cl_c163_0) 4000 (e2_seek e2x_59 66) al_c163_0 [] E_c163_0 h_c163_0 = true := by decide +kernel
set_option maxRecDepth 1000000 in
theorem ci_c163_0 : e2_idl 3 (al_c163_0.set 5 (9, 0, 0)) = true := by decide +kernel
set_option maxRecDepth 1000000 in
theorem cj_c163_0 : e2_idh 3 8 h_c163_0 = true := by decide +kernel
theorem cs_c163 (hen : en_ok) (l : Launch) (hh : e2_hand_c l) : e2_smOk l 195 s_c163 := by
  refine e2_conG (H := 192) (n := 2) (C := evd_59) (S := S_c163) (I := I_c163) (fuel := 4000) hen ei_59 (e2_fa ((cs_c38 hen l hh).mono (by decide)) (e2_fa (cs_c162 hen l hh) e2_fz)) (e2_fa ein_19 (e2_fa ein_20 (e2_fa ein_60 e2_fz))) (by decide) co_c163 fun M d _ hC hcall p e R s m args below meth c Q D cA A ads r0 ha hl0 => ?_
  have L_0 : e2_gdM M p l e R s m args below meth c Q D cA A ads r0 66 al_c163_0 [] E_c163_0 h_c163_0 := by
    refine e2_indL (u := 3) (j := 5) (lo := 2147483648) (hi := 2147483678) (b := 3) (dd := 0) hl0 (by decide) rfl rfl (Or.inr ⟨rfl, rfl⟩) rfl ci_c163_0 cj_c163_0 ?_
    intro r_0 k_0 hk_0 hp_0 hs_0 hn_0
    have hl_0 : r_0.length ≤ 4 := hs_0.len rfl
    have ha_0 := ha.ext hp_0
    exact e2_fromM hen ha_0 hcall (e2_cutA_ok (e2_fa (fun al st E h hc => hn_0 al st E h hc) e2_fz)) (hC []) (X := e2x_59) ex2_59 66 ck_c163_0
  have EN_0 := e2_entL (u := 3) (j := 5) (lo := 2147483648) (hi := 2147483678) hl0 rfl rfl rfl ci_c163_0 cj_c163_0 L_0
  exact e2_from hen ha hcall (e2_cutA_ok (e2_fa (fun al st E h hc => EN_0 al st E h hc) e2_fz)) (hC []) (X := e2x_59) ex2_59 0 ck_c163_e
/-! c164 X3_parseUnit -/
def as_c164 : List ev_V := [(2, 33, 0), (2, 14, 0), (0, 0, 0)]
def E_c164 : e2_E := [(2147483648, 2147583648, 0, 0), (2147483652, 2147483668, 1, 0), (2147483648, 2147485248, 2, 0)]
noncomputable def f_c164 : ev_H := (cn655 : e2_Q8)
noncomputable def q_c164_0 : ev_H := (cn655 : e2_Q8)
noncomputable def rs_c164 : e2_Rs := [((11, 2147483648, 2147483649), q_c164_0)]
noncomputable def s_c164 : e2_Sm := (62, as_c164, E_c164, f_c164, rs_c164)
noncomputable def S_c164 : List e2_Sm := [s_c38, s_c39, s_c163]
noncomputable def I_c164 : List e2_In := [(18, 2, e2x_18), (19, 2, e2x_19), (20, 2, e2x_20), (43, 2, e2x_43), (44, 3, e2x_44)]
set_option maxRecDepth 1000000 in
theorem ck_c164 : e2_run (e2_cal S_c164 I_c164 4000 2) (e2_fin rs_c164) e2x_62 (fun _ => false) (fun _ _ _ _ _ => false) 4000 (e2_seek e2x_62 0) (e2_al 7 as_c164) [] E_c164 f_c164 = true := by decide +kernel
set_option maxRecDepth 1000000 in
theorem co_c164 : e2_okSB E_c164.length as_c164 f_c164 rs_c164 = true := by decide +kernel
theorem cs_c164 (hen : en_ok) (l : Launch) (hh : e2_hand_c l) : e2_smOk l 198 s_c164 := e2_con0 (H := 195) (n := 2) (C := evd_62) (S := S_c164) (I := I_c164) (fuel := 4000) [] hen ei_62 (e2_fa ((cs_c38 hen l hh).mono (by decide)) (e2_fa ((cs_c39 hen l hh).mono (by decide)) (e2_fa (cs_c163 hen l hh) e2_fz))) (e2_fa ein_18 (e2_fa ein_19 (e2_fa ein_20 (e2_fa ein_43 (e2_fa ein_44 e2_fz))))) (by decide) co_c164 ex2_62 ck_c164
/-! c165 X3_parseLevel -/
def as_c165 : List ev_V := [(2, 33, 0), (2, 14, 0), (0, 5, 0), (0, 0, 0)]
def E_c165 : e2_E := [(2147483648, 2147583648, 0, 0), (2147483652, 2147483668, 1, 0), (2147483648, 2147485248, 2, 0)]
noncomputable def f_c165 : ev_H := (cn655 : e2_Q8)
noncomputable def q_c165_0 : ev_H := (cn655 : e2_Q8)
noncomputable def rs_c165 : e2_Rs := [((11, 2147483648, 2147483649), q_c165_0)]
noncomputable def s_c165 : e2_Sm := (59, as_c165, E_c165, f_c165, rs_c165)
noncomputable def S_c165 : List e2_Sm := [s_c164]
noncomputable def I_c165 : List e2_In := []
set_option maxRecDepth 1000000 in
theorem ck_c165 : e2_run (e2_cal S_c165 I_c165 4000 0) (e2_fin rs_c165) e2x_59 (fun _ => false) (fun _ _ _ _ _ => false) 4000 (e2_seek e2x_59 0) (e2_al 7 as_c165) [] E_c165 f_c165 = true := by decide +kernel
set_option maxRecDepth 1000000 in
theorem co_c165 : e2_okSB E_c165.length as_c165 f_c165 rs_c165 = true := by decide +kernel
theorem cs_c165 (hen : en_ok) (l : Launch) (hh : e2_hand_c l) : e2_smOk l 199 s_c165 := e2_con0 (H := 198) (n := 0) (C := evd_59) (S := S_c165) (I := I_c165) (fuel := 4000) [] hen ei_59 (e2_fa (cs_c164 hen l hh) e2_fz) e2_fz (by decide) co_c165 ex2_59 ck_c165
/-! c166 X3_parseLevel -/
def as_c166 : List ev_V := [(2, 33, 0), (2, 14, 0), (0, 4, 0), (0, 0, 0)]
def E_c166 : e2_E := [(2147483648, 2147583648, 0, 0), (2147483652, 2147483668, 1, 0), (2147483648, 2147485248, 2, 0)]
noncomputable def f_c166 : ev_H := (cn655 : e2_Q8)
noncomputable def q_c166_0 : ev_H := (cn655 : e2_Q8)
noncomputable def rs_c166 : e2_Rs := [((11, 2147483648, 2147483649), q_c166_0)]
noncomputable def s_c166 : e2_Sm := (59, as_c166, E_c166, f_c166, rs_c166)
noncomputable def S_c166 : List e2_Sm := [s_c38, s_c165]
noncomputable def I_c166 : List e2_In := [(19, 2, e2x_19), (20, 2, e2x_20), (60, 1, e2x_60)]
set_option maxRecDepth 1000000 in
theorem co_c166 : e2_okSB E_c166.length as_c166 f_c166 rs_c166 = true := by decide +kernel
def al_c166_0 : List ev_V := [(2, 33, 0), (2, 14, 0), (0, 4, 0), (0, 0, 0), (0, 30, 0), (1, 3, 4294967296), (9, 0, 0)]
def E_c166_0 : e2_E := [(2147483648, 2147583648, 0, 0), (2147483652, 2147483668, 1, 0), (2147483648, 2147485248, 2, 0), (2147483648, 2147483678, 3, 0)]
noncomputable def h_c166_0 : ev_H := (cn655 : e2_Q8)
noncomputable def cl_c166_e : List (Nat × e2_S) := [(66, e2_cutL (al_c166_0.set 5 (11, 2147483648, 2147483678)) 3 (E_c166_0.take 3) h_c166_0)]
set_option maxRecDepth 1000000 in
theorem ck_c166_e : e2_run (e2_cal S_c166 I_c166 4000 2) (e2_fin rs_c166) e2x_59 (e2_bpL cl_c166_e) (e2_cutA cl_c166_e) 4000 (e2_seek e2x_59 0) (e2_al 7 as_c166) [] E_c166 f_c166 = true := by decide +kernel
noncomputable def cl_c166_0 : List (Nat × e2_S) := [(66, e2_cutL (al_c166_0.set 5 (13, 11, 2147483678)) 3 (E_c166_0.take 3) h_c166_0)]
set_option maxRecDepth 1000000 in
theorem ck_c166_0 : e2_runM (e2_cal S_c166 I_c166 4000 2) (e2_fin rs_c166) e2x_59 (e2_bpL cl_c166_0) (e2_cutA cl_c166_0) 4000 (e2_seek e2x_59 66) al_c166_0 [] E_c166_0 h_c166_0 = true := by decide +kernel
set_option maxRecDepth 1000000 in
theorem ci_c166_0 : e2_idl 3 (al_c166_0.set 5 (9, 0, 0)) = true := by decide +kernel
set_option maxRecDepth 1000000 in
theorem cj_c166_0 : e2_idh 3 8 h_c166_0 = true := by decide +kernel
theorem cs_c166 (hen : en_ok) (l : Launch) (hh : e2_hand_c l) : e2_smOk l 202 s_c166 := by
  refine e2_conG (H := 199) (n := 2) (C := evd_59) (S := S_c166) (I := I_c166) (fuel := 4000) hen ei_59 (e2_fa ((cs_c38 hen l hh).mono (by decide)) (e2_fa (cs_c165 hen l hh) e2_fz)) (e2_fa ein_19 (e2_fa ein_20 (e2_fa ein_60 e2_fz))) (by decide) co_c166 fun M d _ hC hcall p e R s m args below meth c Q D cA A ads r0 ha hl0 => ?_
  have L_0 : e2_gdM M p l e R s m args below meth c Q D cA A ads r0 66 al_c166_0 [] E_c166_0 h_c166_0 := by
    refine e2_indL (u := 3) (j := 5) (lo := 2147483648) (hi := 2147483678) (b := 3) (dd := 0) hl0 (by decide) rfl rfl (Or.inr ⟨rfl, rfl⟩) rfl ci_c166_0 cj_c166_0 ?_
    intro r_0 k_0 hk_0 hp_0 hs_0 hn_0
    have hl_0 : r_0.length ≤ 4 := hs_0.len rfl
    have ha_0 := ha.ext hp_0
    exact e2_fromM hen ha_0 hcall (e2_cutA_ok (e2_fa (fun al st E h hc => hn_0 al st E h hc) e2_fz)) (hC []) (X := e2x_59) ex2_59 66 ck_c166_0
  have EN_0 := e2_entL (u := 3) (j := 5) (lo := 2147483648) (hi := 2147483678) hl0 rfl rfl rfl ci_c166_0 cj_c166_0 L_0
  exact e2_from hen ha hcall (e2_cutA_ok (e2_fa (fun al st E h hc => EN_0 al st E h hc) e2_fz)) (hC []) (X := e2x_59) ex2_59 0 ck_c166_e
/-! c167 X3_parseLevel -/
def as_c167 : List ev_V := [(2, 33, 0), (2, 14, 0), (0, 3, 0), (0, 0, 0)]
def E_c167 : e2_E := [(2147483648, 2147583648, 0, 0), (2147483652, 2147483668, 1, 0), (2147483648, 2147485248, 2, 0)]
noncomputable def f_c167 : ev_H := (cn655 : e2_Q8)
noncomputable def q_c167_0 : ev_H := (cn655 : e2_Q8)
noncomputable def rs_c167 : e2_Rs := [((11, 2147483648, 2147483649), q_c167_0)]
noncomputable def s_c167 : e2_Sm := (59, as_c167, E_c167, f_c167, rs_c167)
noncomputable def S_c167 : List e2_Sm := [s_c38, s_c166]
noncomputable def I_c167 : List e2_In := [(19, 2, e2x_19), (20, 2, e2x_20), (60, 1, e2x_60)]
set_option maxRecDepth 1000000 in
theorem co_c167 : e2_okSB E_c167.length as_c167 f_c167 rs_c167 = true := by decide +kernel
def al_c167_0 : List ev_V := [(2, 33, 0), (2, 14, 0), (0, 3, 0), (0, 0, 0), (0, 30, 0), (1, 3, 4294967296), (9, 0, 0)]
def E_c167_0 : e2_E := [(2147483648, 2147583648, 0, 0), (2147483652, 2147483668, 1, 0), (2147483648, 2147485248, 2, 0), (2147483648, 2147483678, 3, 0)]
noncomputable def h_c167_0 : ev_H := (cn655 : e2_Q8)
noncomputable def cl_c167_e : List (Nat × e2_S) := [(66, e2_cutL (al_c167_0.set 5 (11, 2147483648, 2147483678)) 3 (E_c167_0.take 3) h_c167_0)]
set_option maxRecDepth 1000000 in
theorem ck_c167_e : e2_run (e2_cal S_c167 I_c167 4000 2) (e2_fin rs_c167) e2x_59 (e2_bpL cl_c167_e) (e2_cutA cl_c167_e) 4000 (e2_seek e2x_59 0) (e2_al 7 as_c167) [] E_c167 f_c167 = true := by decide +kernel
noncomputable def cl_c167_0 : List (Nat × e2_S) := [(66, e2_cutL (al_c167_0.set 5 (13, 11, 2147483678)) 3 (E_c167_0.take 3) h_c167_0)]
set_option maxRecDepth 1000000 in
theorem ck_c167_0 : e2_runM (e2_cal S_c167 I_c167 4000 2) (e2_fin rs_c167) e2x_59 (e2_bpL cl_c167_0) (e2_cutA cl_c167_0) 4000 (e2_seek e2x_59 66) al_c167_0 [] E_c167_0 h_c167_0 = true := by decide +kernel
set_option maxRecDepth 1000000 in
theorem ci_c167_0 : e2_idl 3 (al_c167_0.set 5 (9, 0, 0)) = true := by decide +kernel
set_option maxRecDepth 1000000 in
theorem cj_c167_0 : e2_idh 3 8 h_c167_0 = true := by decide +kernel
theorem cs_c167 (hen : en_ok) (l : Launch) (hh : e2_hand_c l) : e2_smOk l 205 s_c167 := by
  refine e2_conG (H := 202) (n := 2) (C := evd_59) (S := S_c167) (I := I_c167) (fuel := 4000) hen ei_59 (e2_fa ((cs_c38 hen l hh).mono (by decide)) (e2_fa (cs_c166 hen l hh) e2_fz)) (e2_fa ein_19 (e2_fa ein_20 (e2_fa ein_60 e2_fz))) (by decide) co_c167 fun M d _ hC hcall p e R s m args below meth c Q D cA A ads r0 ha hl0 => ?_
  have L_0 : e2_gdM M p l e R s m args below meth c Q D cA A ads r0 66 al_c167_0 [] E_c167_0 h_c167_0 := by
    refine e2_indL (u := 3) (j := 5) (lo := 2147483648) (hi := 2147483678) (b := 3) (dd := 0) hl0 (by decide) rfl rfl (Or.inr ⟨rfl, rfl⟩) rfl ci_c167_0 cj_c167_0 ?_
    intro r_0 k_0 hk_0 hp_0 hs_0 hn_0
    have hl_0 : r_0.length ≤ 4 := hs_0.len rfl
    have ha_0 := ha.ext hp_0
    exact e2_fromM hen ha_0 hcall (e2_cutA_ok (e2_fa (fun al st E h hc => hn_0 al st E h hc) e2_fz)) (hC []) (X := e2x_59) ex2_59 66 ck_c167_0
  have EN_0 := e2_entL (u := 3) (j := 5) (lo := 2147483648) (hi := 2147483678) hl0 rfl rfl rfl ci_c167_0 cj_c167_0 L_0
  exact e2_from hen ha hcall (e2_cutA_ok (e2_fa (fun al st E h hc => EN_0 al st E h hc) e2_fz)) (hC []) (X := e2x_59) ex2_59 0 ck_c167_e
/-! c168 X3_parseNot -/
def as_c168 : List ev_V := [(2, 33, 0), (2, 14, 0), (0, 0, 0)]
def E_c168 : e2_E := [(2147483648, 2147583648, 0, 0), (2147483652, 2147483668, 1, 0), (2147483648, 2147485248, 2, 0)]
noncomputable def f_c168 : ev_H := (cn655 : e2_Q8)
noncomputable def q_c168_0 : ev_H := (cn655 : e2_Q8)
noncomputable def rs_c168 : e2_Rs := [((11, 2147483648, 2147483649), q_c168_0)]
noncomputable def s_c168 : e2_Sm := (61, as_c168, E_c168, f_c168, rs_c168)
noncomputable def S_c168 : List e2_Sm := [s_c38, s_c161]
noncomputable def I_c168 : List e2_In := [(19, 2, e2x_19), (20, 2, e2x_20)]
set_option maxRecDepth 1000000 in
theorem ck_c168 : e2_run (e2_cal S_c168 I_c168 4000 2) (e2_fin rs_c168) e2x_61 (fun _ => false) (fun _ _ _ _ _ => false) 4000 (e2_seek e2x_61 0) (e2_al 3 as_c168) [] E_c168 f_c168 = true := by decide +kernel
set_option maxRecDepth 1000000 in
theorem co_c168 : e2_okSB E_c168.length as_c168 f_c168 rs_c168 = true := by decide +kernel
theorem cs_c168 (hen : en_ok) (l : Launch) (hh : e2_hand_c l) : e2_smOk l 192 s_c168 := e2_con0 (H := 189) (n := 2) (C := evd_61) (S := S_c168) (I := I_c168) (fuel := 4000) [] hen ei_61 (e2_fa ((cs_c38 hen l hh).mono (by decide)) (e2_fa (cs_c161 hen l hh) e2_fz)) (e2_fa ein_19 (e2_fa ein_20 e2_fz)) (by decide) co_c168 ex2_61 ck_c168
/-! c169 X3_parseLevel -/
def as_c169 : List ev_V := [(2, 33, 0), (2, 14, 0), (0, 2, 0), (0, 0, 0)]
def E_c169 : e2_E := [(2147483648, 2147583648, 0, 0), (2147483652, 2147483668, 1, 0), (2147483648, 2147485248, 2, 0)]
noncomputable def f_c169 : ev_H := (cn655 : e2_Q8)
noncomputable def q_c169_0 : ev_H := (cn655 : e2_Q8)
noncomputable def rs_c169 : e2_Rs := [((11, 2147483648, 2147483649), q_c169_0)]
noncomputable def s_c169 : e2_Sm := (59, as_c169, E_c169, f_c169, rs_c169)
noncomputable def S_c169 : List e2_Sm := [s_c38, s_c167, s_c168]
noncomputable def I_c169 : List e2_In := [(19, 2, e2x_19), (20, 2, e2x_20), (60, 1, e2x_60)]
set_option maxRecDepth 1000000 in
theorem co_c169 : e2_okSB E_c169.length as_c169 f_c169 rs_c169 = true := by decide +kernel
def al_c169_0 : List ev_V := [(2, 33, 0), (2, 14, 0), (0, 2, 0), (0, 0, 0), (0, 1, 0), (1, 3, 4294967296), (9, 0, 0)]
def E_c169_0 : e2_E := [(2147483648, 2147583648, 0, 0), (2147483652, 2147483668, 1, 0), (2147483648, 2147485248, 2, 0), (2147483648, 2147483649, 3, 0)]
noncomputable def h_c169_0 : ev_H := (cn655 : e2_Q8)
noncomputable def cl_c169_e : List (Nat × e2_S) := [(66, e2_cutL (al_c169_0.set 5 (11, 2147483648, 2147483649)) 3 (E_c169_0.take 3) h_c169_0)]
set_option maxRecDepth 1000000 in
theorem ck_c169_e : e2_run (e2_cal S_c169 I_c169 4000 2) (e2_fin rs_c169) e2x_59 (e2_bpL cl_c169_e) (e2_cutA cl_c169_e) 4000 (e2_seek e2x_59 0) (e2_al 7 as_c169) [] E_c169 f_c169 = true := by decide +kernel
noncomputable def cl_c169_0 : List (Nat × e2_S) := [(66, e2_cutL (al_c169_0.set 5 (13, 11, 2147483649)) 3 (E_c169_0.take 3) h_c169_0)]
set_option maxRecDepth 1000000 in
theorem ck_c169_0 : e2_runM (e2_cal S_c169 I_c169 4000 2) (e2_fin rs_c169) e2x_59 (e2_bpL cl_c169_0) (e2_cutA cl_c169_0) 4000 (e2_seek e2x_59 66) al_c169_0 [] E_c169_0 h_c169_0 = true := by decide +kernel
set_option maxRecDepth 1000000 in
theorem ci_c169_0 : e2_idl 3 (al_c169_0.set 5 (9, 0, 0)) = true := by decide +kernel
set_option maxRecDepth 1000000 in
theorem cj_c169_0 : e2_idh 3 8 h_c169_0 = true := by decide +kernel
theorem cs_c169 (hen : en_ok) (l : Launch) (hh : e2_hand_c l) : e2_smOk l 208 s_c169 := by
  refine e2_conG (H := 205) (n := 2) (C := evd_59) (S := S_c169) (I := I_c169) (fuel := 4000) hen ei_59 (e2_fa ((cs_c38 hen l hh).mono (by decide)) (e2_fa (cs_c167 hen l hh) (e2_fa ((cs_c168 hen l hh).mono (by decide)) e2_fz))) (e2_fa ein_19 (e2_fa ein_20 (e2_fa ein_60 e2_fz))) (by decide) co_c169 fun M d _ hC hcall p e R s m args below meth c Q D cA A ads r0 ha hl0 => ?_
  have L_0 : e2_gdM M p l e R s m args below meth c Q D cA A ads r0 66 al_c169_0 [] E_c169_0 h_c169_0 := by
    refine e2_indL (u := 3) (j := 5) (lo := 2147483648) (hi := 2147483649) (b := 3) (dd := 0) hl0 (by decide) rfl rfl (Or.inr ⟨rfl, rfl⟩) rfl ci_c169_0 cj_c169_0 ?_
    intro r_0 k_0 hk_0 hp_0 hs_0 hn_0
    have hl_0 : r_0.length ≤ 4 := hs_0.len rfl
    have ha_0 := ha.ext hp_0
    exact e2_fromM hen ha_0 hcall (e2_cutA_ok (e2_fa (fun al st E h hc => hn_0 al st E h hc) e2_fz)) (hC []) (X := e2x_59) ex2_59 66 ck_c169_0
  have EN_0 := e2_entL (u := 3) (j := 5) (lo := 2147483648) (hi := 2147483649) hl0 rfl rfl rfl ci_c169_0 cj_c169_0 L_0
  exact e2_from hen ha hcall (e2_cutA_ok (e2_fa (fun al st E h hc => EN_0 al st E h hc) e2_fz)) (hC []) (X := e2x_59) ex2_59 0 ck_c169_e
/-! c170 X3_parseLevel -/
def as_c170 : List ev_V := [(2, 33, 0), (2, 14, 0), (0, 1, 0), (0, 0, 0)]
def E_c170 : e2_E := [(2147483648, 2147583648, 0, 0), (2147483652, 2147483668, 1, 0), (2147483648, 2147485248, 2, 0)]
noncomputable def f_c170 : ev_H := (cn655 : e2_Q8)
noncomputable def q_c170_0 : ev_H := (cn655 : e2_Q8)
noncomputable def rs_c170 : e2_Rs := [((11, 2147483648, 2147483649), q_c170_0)]
noncomputable def s_c170 : e2_Sm := (59, as_c170, E_c170, f_c170, rs_c170)
noncomputable def S_c170 : List e2_Sm := [s_c38, s_c169]
noncomputable def I_c170 : List e2_In := [(19, 2, e2x_19), (20, 2, e2x_20), (60, 1, e2x_60)]
set_option maxRecDepth 1000000 in
theorem co_c170 : e2_okSB E_c170.length as_c170 f_c170 rs_c170 = true := by decide +kernel
def al_c170_0 : List ev_V := [(2, 33, 0), (2, 14, 0), (0, 1, 0), (0, 0, 0), (0, 30, 0), (1, 3, 4294967296), (9, 0, 0)]
def E_c170_0 : e2_E := [(2147483648, 2147583648, 0, 0), (2147483652, 2147483668, 1, 0), (2147483648, 2147485248, 2, 0), (2147483648, 2147483678, 3, 0)]
noncomputable def h_c170_0 : ev_H := (cn655 : e2_Q8)
noncomputable def cl_c170_e : List (Nat × e2_S) := [(66, e2_cutL (al_c170_0.set 5 (11, 2147483648, 2147483678)) 3 (E_c170_0.take 3) h_c170_0)]
set_option maxRecDepth 1000000 in
theorem ck_c170_e : e2_run (e2_cal S_c170 I_c170 4000 2) (e2_fin rs_c170) e2x_59 (e2_bpL cl_c170_e) (e2_cutA cl_c170_e) 4000 (e2_seek e2x_59 0) (e2_al 7 as_c170) [] E_c170 f_c170 = true := by decide +kernel
noncomputable def cl_c170_0 : List (Nat × e2_S) := [(66, e2_cutL (al_c170_0.set 5 (13, 11, 2147483678)) 3 (E_c170_0.take 3) h_c170_0)]
set_option maxRecDepth 1000000 in
theorem ck_c170_0 : e2_runM (e2_cal S_c170 I_c170 4000 2) (e2_fin rs_c170) e2x_59 (e2_bpL cl_c170_0) (e2_cutA cl_c170_0) 4000 (e2_seek e2x_59 66) al_c170_0 [] E_c170_0 h_c170_0 = true := by decide +kernel
set_option maxRecDepth 1000000 in
theorem ci_c170_0 : e2_idl 3 (al_c170_0.set 5 (9, 0, 0)) = true := by decide +kernel
set_option maxRecDepth 1000000 in
theorem cj_c170_0 : e2_idh 3 8 h_c170_0 = true := by decide +kernel
theorem cs_c170 (hen : en_ok) (l : Launch) (hh : e2_hand_c l) : e2_smOk l 211 s_c170 := by
  refine e2_conG (H := 208) (n := 2) (C := evd_59) (S := S_c170) (I := I_c170) (fuel := 4000) hen ei_59 (e2_fa ((cs_c38 hen l hh).mono (by decide)) (e2_fa (cs_c169 hen l hh) e2_fz)) (e2_fa ein_19 (e2_fa ein_20 (e2_fa ein_60 e2_fz))) (by decide) co_c170 fun M d _ hC hcall p e R s m args below meth c Q D cA A ads r0 ha hl0 => ?_
  have L_0 : e2_gdM M p l e R s m args below meth c Q D cA A ads r0 66 al_c170_0 [] E_c170_0 h_c170_0 := by
    refine e2_indL (u := 3) (j := 5) (lo := 2147483648) (hi := 2147483678) (b := 3) (dd := 0) hl0 (by decide) rfl rfl (Or.inr ⟨rfl, rfl⟩) rfl ci_c170_0 cj_c170_0 ?_
    intro r_0 k_0 hk_0 hp_0 hs_0 hn_0
    have hl_0 : r_0.length ≤ 4 := hs_0.len rfl
    have ha_0 := ha.ext hp_0
    exact e2_fromM hen ha_0 hcall (e2_cutA_ok (e2_fa (fun al st E h hc => hn_0 al st E h hc) e2_fz)) (hC []) (X := e2x_59) ex2_59 66 ck_c170_0
  have EN_0 := e2_entL (u := 3) (j := 5) (lo := 2147483648) (hi := 2147483678) hl0 rfl rfl rfl ci_c170_0 cj_c170_0 L_0
  exact e2_from hen ha hcall (e2_cutA_ok (e2_fa (fun al st E h hc => EN_0 al st E h hc) e2_fz)) (hC []) (X := e2x_59) ex2_59 0 ck_c170_e
/-! c171 X3_parseLevel -/
def as_c171 : List ev_V := [(2, 33, 0), (2, 14, 0), (0, 0, 0), (0, 0, 0)]
def E_c171 : e2_E := [(2147483648, 2147583648, 0, 0), (2147483652, 2147483668, 1, 0), (2147483648, 2147485248, 2, 0)]
noncomputable def f_c171 : ev_H := (cn655 : e2_Q8)
noncomputable def q_c171_0 : ev_H := (cn655 : e2_Q8)
noncomputable def rs_c171 : e2_Rs := [((11, 2147483648, 2147483649), q_c171_0)]
noncomputable def s_c171 : e2_Sm := (59, as_c171, E_c171, f_c171, rs_c171)
noncomputable def S_c171 : List e2_Sm := [s_c38, s_c170]
noncomputable def I_c171 : List e2_In := [(19, 2, e2x_19), (20, 2, e2x_20), (60, 1, e2x_60)]
set_option maxRecDepth 1000000 in
theorem co_c171 : e2_okSB E_c171.length as_c171 f_c171 rs_c171 = true := by decide +kernel
def al_c171_0 : List ev_V := [(2, 33, 0), (2, 14, 0), (0, 0, 0), (0, 0, 0), (0, 30, 0), (1, 3, 4294967296), (9, 0, 0)]
def E_c171_0 : e2_E := [(2147483648, 2147583648, 0, 0), (2147483652, 2147483668, 1, 0), (2147483648, 2147485248, 2, 0), (2147483648, 2147483678, 3, 0)]
noncomputable def h_c171_0 : ev_H := (cn655 : e2_Q8)
noncomputable def cl_c171_e : List (Nat × e2_S) := [(66, e2_cutL (al_c171_0.set 5 (11, 2147483648, 2147483678)) 3 (E_c171_0.take 3) h_c171_0)]
set_option maxRecDepth 1000000 in
theorem ck_c171_e : e2_run (e2_cal S_c171 I_c171 4000 2) (e2_fin rs_c171) e2x_59 (e2_bpL cl_c171_e) (e2_cutA cl_c171_e) 4000 (e2_seek e2x_59 0) (e2_al 7 as_c171) [] E_c171 f_c171 = true := by decide +kernel
noncomputable def cl_c171_0 : List (Nat × e2_S) := [(66, e2_cutL (al_c171_0.set 5 (13, 11, 2147483678)) 3 (E_c171_0.take 3) h_c171_0)]
set_option maxRecDepth 1000000 in
theorem ck_c171_0 : e2_runM (e2_cal S_c171 I_c171 4000 2) (e2_fin rs_c171) e2x_59 (e2_bpL cl_c171_0) (e2_cutA cl_c171_0) 4000 (e2_seek e2x_59 66) al_c171_0 [] E_c171_0 h_c171_0 = true := by decide +kernel
set_option maxRecDepth 1000000 in
theorem ci_c171_0 : e2_idl 3 (al_c171_0.set 5 (9, 0, 0)) = true := by decide +kernel
set_option maxRecDepth 1000000 in
theorem cj_c171_0 : e2_idh 3 8 h_c171_0 = true := by decide +kernel
theorem cs_c171 (hen : en_ok) (l : Launch) (hh : e2_hand_c l) : e2_smOk l 214 s_c171 := by
  refine e2_conG (H := 211) (n := 2) (C := evd_59) (S := S_c171) (I := I_c171) (fuel := 4000) hen ei_59 (e2_fa ((cs_c38 hen l hh).mono (by decide)) (e2_fa (cs_c170 hen l hh) e2_fz)) (e2_fa ein_19 (e2_fa ein_20 (e2_fa ein_60 e2_fz))) (by decide) co_c171 fun M d _ hC hcall p e R s m args below meth c Q D cA A ads r0 ha hl0 => ?_
  have L_0 : e2_gdM M p l e R s m args below meth c Q D cA A ads r0 66 al_c171_0 [] E_c171_0 h_c171_0 := by
    refine e2_indL (u := 3) (j := 5) (lo := 2147483648) (hi := 2147483678) (b := 3) (dd := 0) hl0 (by decide) rfl rfl (Or.inr ⟨rfl, rfl⟩) rfl ci_c171_0 cj_c171_0 ?_
    intro r_0 k_0 hk_0 hp_0 hs_0 hn_0
    have hl_0 : r_0.length ≤ 4 := hs_0.len rfl
    have ha_0 := ha.ext hp_0
    exact e2_fromM hen ha_0 hcall (e2_cutA_ok (e2_fa (fun al st E h hc => hn_0 al st E h hc) e2_fz)) (hC []) (X := e2x_59) ex2_59 66 ck_c171_0
  have EN_0 := e2_entL (u := 3) (j := 5) (lo := 2147483648) (hi := 2147483678) hl0 rfl rfl rfl ci_c171_0 cj_c171_0 L_0
  exact e2_from hen ha hcall (e2_cutA_ok (e2_fa (fun al st E h hc => EN_0 al st E h hc) e2_fz)) (hC []) (X := e2x_59) ex2_59 0 ck_c171_e
/-! c172 X3_parseFormula -/
def as_c172 : List ev_V := [(2, 33, 0), (2, 14, 0)]
def E_c172 : e2_E := [(2147483648, 2147583648, 0, 0), (2147483652, 2147483668, 1, 0), (2147483648, 2147485248, 2, 0)]
noncomputable def f_c172 : ev_H := (cn655 : e2_Q8)
noncomputable def q_c172_0 : ev_H := (cn655 : e2_Q8)
noncomputable def rs_c172 : e2_Rs := [((11, 2147483648, 2147483649), q_c172_0)]
noncomputable def s_c172 : e2_Sm := (58, as_c172, E_c172, f_c172, rs_c172)
noncomputable def S_c172 : List e2_Sm := [s_c38, s_c39, s_c171]
noncomputable def I_c172 : List e2_In := [(17, 1, e2x_17), (43, 2, e2x_43), (44, 3, e2x_44)]
set_option maxRecDepth 1000000 in
theorem ck_c172 : e2_run (e2_cal S_c172 I_c172 4000 2) (e2_fin rs_c172) e2x_58 (fun _ => false) (fun _ _ _ _ _ => false) 4000 (e2_seek e2x_58 0) (e2_al 2 as_c172) [] E_c172 f_c172 = true := by decide +kernel
set_option maxRecDepth 1000000 in
theorem co_c172 : e2_okSB E_c172.length as_c172 f_c172 rs_c172 = true := by decide +kernel
theorem cs_c172 (hen : en_ok) (l : Launch) (hh : e2_hand_c l) : e2_smOk l 217 s_c172 := e2_con0 (H := 214) (n := 2) (C := evd_58) (S := S_c172) (I := I_c172) (fuel := 4000) [] hen ei_58 (e2_fa ((cs_c38 hen l hh).mono (by decide)) (e2_fa ((cs_c39 hen l hh).mono (by decide)) (e2_fa (cs_c171 hen l hh) e2_fz))) (e2_fa ein_17 (e2_fa ein_43 (e2_fa ein_44 e2_fz))) (by decide) co_c172 ex2_58 ck_c172
/-! c173 X3_parseNever -/
def as_c173 : List ev_V := [(2, 33, 0)]
def E_c173 : e2_E := [(2147483648, 2147583648, 0, 0), (2147483652, 2147483668, 1, 0), (2147483648, 2147485248, 2, 0)]
def cc175 : ev_C := (53, [(0, 8, 0)])
def cn656 : e2_Q1 := (cc175, cc19)
def cn657 : e2_Q2 := (cn656, cn32)
def cn658 : e2_Q3 := (cn657, cn36)
def cn659 : e2_Q4 := (cn658, cn44)
def cn660 : e2_Q5 := (cn659, cn60)
def cn661 : e2_Q6 := (cn30, cn660)
def cn662 : e2_Q2 := (cn282, cn79)
def cn663 : e2_Q3 := (cn662, cn83)
def cn664 : e2_Q4 := (cn663, cn91)
def cn665 : e2_Q5 := (cn266, cn664)
def cn666 : e2_Q6 := (cn665, cn124)
def cn667 : e2_Q7 := (cn661, cn666)
def cn668 : e2_Q2 := (cn282, cn143)
def cn669 : e2_Q3 := (cn668, cn147)
def cn670 : e2_Q4 := (cn669, cn155)
def cn671 : e2_Q5 := (cn605, cn670)
def cn672 : e2_Q6 := (cn671, cn188)
def cn673 : e2_Q7 := (cn672, cn252)
def cn674 : e2_Q8 := (cn667, cn673)
noncomputable def f_c173 : ev_H := (cn674 : e2_Q8)
noncomputable def q_c173_0 : ev_H := (cn674 : e2_Q8)
noncomputable def rs_c173 : e2_Rs := [((11, 2147483648, 2147483649), q_c173_0)]
noncomputable def s_c173 : e2_Sm := (55, as_c173, E_c173, f_c173, rs_c173)
noncomputable def S_c173 : List e2_Sm := [s_c38, s_c39]
noncomputable def I_c173 : List e2_In := [(43, 2, e2x_43), (44, 3, e2x_44), (120, 3, e2x_120), (159, 2, e2x_159)]
set_option maxRecDepth 1000000 in
theorem co_c173 : e2_okSB E_c173.length as_c173 f_c173 rs_c173 = true := by decide +kernel
noncomputable def cm_c173_0 : List (Nat × e2_S) := []
noncomputable def cm_c173_1 : List (Nat × e2_S) := [(80, nm_S (fun pc => e2_run (e2_cal S_c173 I_c173 4000 2) (e2_fin rs_c173) e2x_55 (e2_bpL cm_c173_0) (e2_cutA cm_c173_0) 4000 (e2_seek e2x_55 pc)) 1 13 1 4 8 101 128 2)]
noncomputable def cm_c173_2 : List (Nat × e2_S) := [(25, nm_S (fun pc => e2_run (e2_cal S_c173 I_c173 4000 2) (e2_fin rs_c173) e2x_55 (e2_bpL cm_c173_1) (e2_cutA cm_c173_1) 4000 (e2_seek e2x_55 pc)) 1 13 1 4 8 46 73 1)]
set_option maxRecDepth 1000000 in
theorem ck_c173 : e2_run (e2_cal S_c173 I_c173 4000 2) (e2_fin rs_c173) e2x_55 (e2_bpL cm_c173_2) (e2_cutA cm_c173_2) 4000 (e2_seek e2x_55 0) (e2_al 3 as_c173) [] E_c173 f_c173 = true := by decide +kernel
theorem cs_c173 (hen : en_ok) (l : Launch) (hh : e2_hand_c l) : e2_smOk l 68 s_c173 := by
  refine e2_conD (H := 65) (n := 2) (C := evd_55) (S := S_c173) (I := I_c173) (fuel := 4000) hen ei_55 (e2_fa ((cs_c38 hen l hh).mono (by decide)) (e2_fa (cs_c39 hen l hh) e2_fz)) (e2_fa ein_43 (e2_fa ein_44 (e2_fa ein_120 (e2_fa ein_159 e2_fz)))) (by decide) co_c173 fun M d hd _ hC hcall p e R s m args below meth c Q D cA A ads r0 ha hl0 => ?_
  have K0 : ∀ pc al st E h, e2_run (e2_cal S_c173 I_c173 4000 2) (e2_fin rs_c173) e2x_55 (e2_bpL cm_c173_0) (e2_cutA cm_c173_0) 4000 (e2_seek e2x_55 pc) al st E h = true → e2_gdM M p l e R s m args below meth c Q D cA A ads r0 pc al st E h := fun pc al st E h hr => e2_from hen ha hcall (e2_cutA_ok e2_fz) (hC []) (X := e2x_55) ex2_55 pc hr
  have S1 : ∀ al st E h, nm_S (fun pc => e2_run (e2_cal S_c173 I_c173 4000 2) (e2_fin rs_c173) e2x_55 (e2_bpL cm_c173_0) (e2_cutA cm_c173_0) 4000 (e2_seek e2x_55 pc)) 1 13 1 4 8 101 128 2 al st E h = true → e2_gdM M p l e R s m args below meth c Q D cA A ads r0 80 al st E h := fun al st E h hh => by
    obtain ⟨rfl, g1, g2, g3, g4, g5⟩ := nm_S_t hh
    exact nm_macro [] hen hC ex2_55 ha (by omega) (by decide) (by decide) (by decide) (by decide) g1 a55_80 a55_81 a55_82 a55_85 a55_88 a55_89 a55_92 a55_95 a55_98 a55_103 a55_104 a55_107 a55_110 a55_111 a55_114 a55_117 a55_118 a55_121 a55_124 a55_127 g3 g4 (K0 _ _ _ _ _ g2) (K0 _ _ _ _ _ g5)
  have K1 : ∀ pc al st E h, e2_run (e2_cal S_c173 I_c173 4000 2) (e2_fin rs_c173) e2x_55 (e2_bpL cm_c173_1) (e2_cutA cm_c173_1) 4000 (e2_seek e2x_55 pc) al st E h = true → e2_gdM M p l e R s m args below meth c Q D cA A ads r0 pc al st E h := fun pc al st E h hr => e2_from hen ha hcall (e2_cutA_ok (e2_fa S1 e2_fz)) (hC []) (X := e2x_55) ex2_55 pc hr
  have S2 : ∀ al st E h, nm_S (fun pc => e2_run (e2_cal S_c173 I_c173 4000 2) (e2_fin rs_c173) e2x_55 (e2_bpL cm_c173_1) (e2_cutA cm_c173_1) 4000 (e2_seek e2x_55 pc)) 1 13 1 4 8 46 73 1 al st E h = true → e2_gdM M p l e R s m args below meth c Q D cA A ads r0 25 al st E h := fun al st E h hh => by
    obtain ⟨rfl, g1, g2, g3, g4, g5⟩ := nm_S_t hh
    exact nm_macro [] hen hC ex2_55 ha (by omega) (by decide) (by decide) (by decide) (by decide) g1 a55_25 a55_26 a55_27 a55_30 a55_33 a55_34 a55_37 a55_40 a55_43 a55_48 a55_49 a55_52 a55_55 a55_56 a55_59 a55_62 a55_63 a55_66 a55_69 a55_72 g3 g4 (K1 _ _ _ _ _ g2) (K1 _ _ _ _ _ g5)
  have K2 : ∀ pc al st E h, e2_run (e2_cal S_c173 I_c173 4000 2) (e2_fin rs_c173) e2x_55 (e2_bpL cm_c173_2) (e2_cutA cm_c173_2) 4000 (e2_seek e2x_55 pc) al st E h = true → e2_gdM M p l e R s m args below meth c Q D cA A ads r0 pc al st E h := fun pc al st E h hr => e2_from hen ha hcall (e2_cutA_ok (e2_fa S2 e2_fz)) (hC []) (X := e2x_55) ex2_55 pc hr
  exact K2 0 _ _ _ _ ck_c173
/-! c174 X3_indexOf -/
def as_c174 : List ev_V := [(5, 0, 0), (2, 4, 0), (11, 2147483648, 2147483655)]
def E_c174 : e2_E := [(2147483648, 2147583648, 0, 0), (2147483652, 2147483668, 1, 0)]
def cn675 : e2_Q7 := (cn661, cn457)
def cn676 : e2_Q8 := (cn675, cn276)
noncomputable def f_c174 : ev_H := (cn676 : e2_Q8)
noncomputable def q_c174_0 : ev_H := (cn676 : e2_Q8)
noncomputable def rs_c174 : e2_Rs := [((11, 2147483647, 2147483654), q_c174_0)]
noncomputable def s_c174 : e2_Sm := (48, as_c174, E_c174, f_c174, rs_c174)
noncomputable def S_c174 : List e2_Sm := []
noncomputable def I_c174 : List e2_In := []
set_option maxRecDepth 1000000 in
theorem co_c174 : e2_okSB E_c174.length as_c174 f_c174 rs_c174 = true := by decide +kernel
def al_c174_0 : List ev_V := [(5, 0, 0), (9, 0, 0), (2, 4, 0), (11, 2147483648, 2147483655), (1, 2, 4294967296)]
def E_c174_0 : e2_E := [(2147483648, 2147583648, 0, 0), (2147483652, 2147483668, 1, 0), (2147483648, 2147483655, 2, 0)]
noncomputable def h_c174_0 : ev_H := (cn676 : e2_Q8)
noncomputable def cl_c174_e : List (Nat × e2_S) := [(3, e2_cutL (al_c174_0.set 4 (11, 2147483648, 2147483655)) 2 (E_c174_0.take 2) h_c174_0)]
set_option maxRecDepth 1000000 in
theorem ck_c174_e : e2_run (e2_cal S_c174 I_c174 4000 0) (e2_fin rs_c174) e2x_48 (e2_bpL cl_c174_e) (e2_cutA cl_c174_e) 4000 (e2_seek e2x_48 0) (e2_al 5 as_c174) [] E_c174 f_c174 = true := by decide +kernel
noncomputable def cl_c174_0 : List (Nat × e2_S) := [(3, e2_cutL (al_c174_0.set 4 (13, 10, 2147483655)) 2 (E_c174_0.take 2) h_c174_0)]
set_option maxRecDepth 1000000 in
theorem ck_c174_0 : e2_runM (e2_cal S_c174 I_c174 4000 0) (e2_fin rs_c174) e2x_48 (e2_bpL cl_c174_0) (e2_cutA cl_c174_0) 4000 (e2_seek e2x_48 3) al_c174_0 [] E_c174_0 h_c174_0 = true := by decide +kernel
set_option maxRecDepth 1000000 in
theorem ci_c174_0 : e2_idl 2 (al_c174_0.set 4 (9, 0, 0)) = true := by decide +kernel
set_option maxRecDepth 1000000 in
theorem cj_c174_0 : e2_idh 2 8 h_c174_0 = true := by decide +kernel
theorem cs_c174 (hen : en_ok) (l : Launch) : e2_smOk l 1 s_c174 := by
  refine e2_conG (H := 0) (n := 0) (C := evd_48) (S := S_c174) (I := I_c174) (fuel := 4000) hen ei_48 e2_fz e2_fz (by decide) co_c174 fun M d _ hC hcall p e R s m args below meth c Q D cA A ads r0 ha hl0 => ?_
  have L_0 : e2_gdM M p l e R s m args below meth c Q D cA A ads r0 3 al_c174_0 [] E_c174_0 h_c174_0 := by
    refine e2_indL (u := 2) (j := 4) (lo := 2147483648) (hi := 2147483655) (b := 2) (dd := 0) hl0 (by decide) rfl rfl (Or.inr ⟨rfl, rfl⟩) rfl ci_c174_0 cj_c174_0 ?_
    intro r_0 k_0 hk_0 hp_0 hs_0 hn_0
    have hl_0 : r_0.length ≤ 3 := hs_0.len rfl
    have ha_0 := ha.ext hp_0
    exact e2_fromM hen ha_0 hcall (e2_cutA_ok (e2_fa (fun al st E h hc => hn_0 al st E h hc) e2_fz)) (hC []) (X := e2x_48) ex2_48 3 ck_c174_0
  have EN_0 := e2_entL (u := 2) (j := 4) (lo := 2147483648) (hi := 2147483655) hl0 rfl rfl rfl ci_c174_0 cj_c174_0 L_0
  exact e2_from hen ha hcall (e2_cutA_ok (e2_fa (fun al st E h hc => EN_0 al st E h hc) e2_fz)) (hC []) (X := e2x_48) ex2_48 0 ck_c174_e
/-! c175 X3_isNewName -/
def as_c175 : List ev_V := [(2, 33, 0), (2, 4, 0), (11, 2147483648, 2147483655)]
def E_c175 : e2_E := [(2147483648, 2147583648, 0, 0), (2147483652, 2147483668, 1, 0), (2147483648, 2147485248, 2, 0)]
def cn677 : e2_Q7 := (cn661, cn268)
def cn678 : e2_Q8 := (cn677, cn640)
noncomputable def f_c175 : ev_H := (cn678 : e2_Q8)
noncomputable def q_c175_0 : ev_H := (cn678 : e2_Q8)
noncomputable def rs_c175 : e2_Rs := [((11, 2147483648, 2147483649), q_c175_0)]
noncomputable def s_c175 : e2_Sm := (49, as_c175, E_c175, f_c175, rs_c175)
noncomputable def S_c175 : List e2_Sm := [s_c174]
noncomputable def I_c175 : List e2_In := [(43, 2, e2x_43), (44, 3, e2x_44)]
set_option maxRecDepth 1000000 in
theorem ck_c175 : e2_run (e2_cal S_c175 I_c175 4000 2) (e2_fin rs_c175) e2x_49 (fun _ => false) (fun _ _ _ _ _ => false) 4000 (e2_seek e2x_49 0) (e2_al 3 as_c175) [] E_c175 f_c175 = true := by decide +kernel
set_option maxRecDepth 1000000 in
theorem co_c175 : e2_okSB E_c175.length as_c175 f_c175 rs_c175 = true := by decide +kernel
theorem cs_c175 (hen : en_ok) (l : Launch) : e2_smOk l 4 s_c175 := e2_con0 (H := 1) (n := 2) (C := evd_49) (S := S_c175) (I := I_c175) (fuel := 4000) [] hen ei_49 (e2_fa (cs_c174 hen l) e2_fz) (e2_fa ein_43 (e2_fa ein_44 e2_fz)) (by decide) co_c175 ex2_49 ck_c175
/-! c176 X3_passValue -/
def as_c176 : List ev_V := [(2, 33, 0)]
def E_c176 : e2_E := [(2147483648, 2147583648, 0, 0), (2147483652, 2147483668, 1, 0), (2147483648, 2147485248, 2, 0)]
noncomputable def f_c176 : ev_H := (cn603 : e2_Q8)
noncomputable def q_c176_0 : ev_H := (cn603 : e2_Q8)
noncomputable def rs_c176 : e2_Rs := [((11, 2147483648, 2147483649), q_c176_0)]
noncomputable def s_c176 : e2_Sm := (54, as_c176, E_c176, f_c176, rs_c176)
noncomputable def S_c176 : List e2_Sm := [s_c38]
noncomputable def I_c176 : List e2_In := [(43, 2, e2x_43), (44, 3, e2x_44)]
set_option maxRecDepth 1000000 in
theorem ck_c176 : e2_run (e2_cal S_c176 I_c176 4000 2) (e2_fin rs_c176) e2x_54 (fun _ => false) (fun _ _ _ _ _ => false) 4000 (e2_seek e2x_54 0) (e2_al 3 as_c176) [] E_c176 f_c176 = true := by decide +kernel
set_option maxRecDepth 1000000 in
theorem co_c176 : e2_okSB E_c176.length as_c176 f_c176 rs_c176 = true := by decide +kernel
theorem cs_c176 (hen : en_ok) (l : Launch) (hh : e2_hand_c l) : e2_smOk l 65 s_c176 := e2_con0 (H := 62) (n := 2) (C := evd_54) (S := S_c176) (I := I_c176) (fuel := 4000) [] hen ei_54 (e2_fa (cs_c38 hen l hh) e2_fz) (e2_fa ein_43 (e2_fa ein_44 e2_fz)) (by decide) co_c176 ex2_54 ck_c176
/-! c177 X3_parseSign -/
def as_c177 : List ev_V := [(2, 33, 0)]
def E_c177 : e2_E := [(2147483648, 2147583648, 0, 0), (2147483652, 2147483668, 1, 0), (2147483648, 2147485248, 2, 0)]
def cn679 : e2_Q2 := (cn282, cn16)
def cn680 : e2_Q3 := (cn679, cn20)
def cn681 : e2_Q4 := (cn680, cn28)
def cn682 : e2_Q5 := (cn14, cn681)
def cn683 : e2_Q2 := (cn656, cn287)
def cn684 : e2_Q3 := (cn683, cn36)
def cn685 : e2_Q4 := (cn684, cn44)
def cn686 : e2_Q5 := (cn685, cn60)
def cn687 : e2_Q6 := (cn682, cn686)
def cc176 : ev_C := (53, [(0, 4, 0)])
def cn688 : e2_Q1 := (cc176, cc36)
def cn689 : e2_Q2 := (cn688, cn64)
def cn690 : e2_Q3 := (cn689, cn264)
def cn691 : e2_Q4 := (cn690, cn391)
def cn692 : e2_Q5 := (cn691, cn92)
def cn693 : e2_Q4 := (cn311, cn400)
def cn694 : e2_Q5 := (cn693, cn123)
def cn695 : e2_Q6 := (cn692, cn694)
def cn696 : e2_Q7 := (cn687, cn695)
def cn697 : e2_Q2 := (cn282, cn330)
def cn698 : e2_Q3 := (cn697, cn163)
def cn699 : e2_Q3 := (cn167, cn335)
def cn700 : e2_Q4 := (cn698, cn699)
def cn701 : e2_Q5 := (cn700, cn187)
def cn702 : e2_Q6 := (cn606, cn701)
def cn703 : e2_Q4 := (cn196, cn341)
def cn704 : e2_Q5 := (cn703, cn219)
def cc177 : ev_C := (54, [(0, 8, 0), (11, 2147483648, 2147483651)])
def cn705 : e2_Q1 := (cc177, cc3)
def cn706 : e2_Q2 := (cn705, cn334)
def cn707 : e2_Q3 := (cn706, cn226)
def cn708 : e2_Q4 := (cn707, cn234)
def cn709 : e2_Q5 := (cn708, cn250)
def cn710 : e2_Q6 := (cn704, cn709)
def cn711 : e2_Q7 := (cn702, cn710)
def cn712 : e2_Q8 := (cn696, cn711)
noncomputable def f_c177 : ev_H := (cn712 : e2_Q8)
noncomputable def q_c177_0 : ev_H := (cn712 : e2_Q8)
noncomputable def rs_c177 : e2_Rs := [((11, 2147483648, 2147483649), q_c177_0)]
noncomputable def s_c177 : e2_Sm := (53, as_c177, E_c177, f_c177, rs_c177)
noncomputable def S_c177 : List e2_Sm := [s_c38, s_c39, s_c175, s_c176]
noncomputable def I_c177 : List e2_In := [(43, 2, e2x_43), (44, 3, e2x_44), (115, 1, e2x_115), (116, 3, e2x_116), (119, 7, e2x_119), (159, 2, e2x_159)]
set_option maxRecDepth 1000000 in
theorem co_c177 : e2_okSB E_c177.length as_c177 f_c177 rs_c177 = true := by decide +kernel
noncomputable def cm_c177_0 : List (Nat × e2_S) := []
noncomputable def cm_c177_1 : List (Nat × e2_S) := [(121, nm_S (fun pc => e2_run (e2_cal S_c177 I_c177 4000 2) (e2_fin rs_c177) e2x_53 (e2_bpL cm_c177_0) (e2_cutA cm_c177_0) 4000 (e2_seek e2x_53 pc)) 1 12 6 2 4 142 170 5)]
set_option maxRecDepth 1000000 in
theorem ck_c177 : e2_run (e2_cal S_c177 I_c177 4000 2) (e2_fin rs_c177) e2x_53 (e2_bpL cm_c177_1) (e2_cutA cm_c177_1) 4000 (e2_seek e2x_53 0) (e2_al 6 as_c177) [] E_c177 f_c177 = true := by decide +kernel
theorem cs_c177 (hen : en_ok) (l : Launch) (hh : e2_hand_c l) : e2_smOk l 68 s_c177 := by
  refine e2_conD (H := 65) (n := 2) (C := evd_53) (S := S_c177) (I := I_c177) (fuel := 4000) hen ei_53 (e2_fa ((cs_c38 hen l hh).mono (by decide)) (e2_fa (cs_c39 hen l hh) (e2_fa ((cs_c175 hen l).mono (by decide)) (e2_fa (cs_c176 hen l hh) e2_fz)))) (e2_fa ein_43 (e2_fa ein_44 (e2_fa ein_115 (e2_fa ein_116 (e2_fa ein_119 (e2_fa ein_159 e2_fz)))))) (by decide) co_c177 fun M d hd _ hC hcall p e R s m args below meth c Q D cA A ads r0 ha hl0 => ?_
  have K0 : ∀ pc al st E h, e2_run (e2_cal S_c177 I_c177 4000 2) (e2_fin rs_c177) e2x_53 (e2_bpL cm_c177_0) (e2_cutA cm_c177_0) 4000 (e2_seek e2x_53 pc) al st E h = true → e2_gdM M p l e R s m args below meth c Q D cA A ads r0 pc al st E h := fun pc al st E h hr => e2_from hen ha hcall (e2_cutA_ok e2_fz) (hC []) (X := e2x_53) ex2_53 pc hr
  have S1 : ∀ al st E h, nm_S (fun pc => e2_run (e2_cal S_c177 I_c177 4000 2) (e2_fin rs_c177) e2x_53 (e2_bpL cm_c177_0) (e2_cutA cm_c177_0) 4000 (e2_seek e2x_53 pc)) 1 12 6 2 4 142 170 5 al st E h = true → e2_gdM M p l e R s m args below meth c Q D cA A ads r0 121 al st E h := fun al st E h hh => by
    obtain ⟨rfl, g1, g2, g3, g4, g5⟩ := nm_S_t hh
    exact nm_macro [] hen hC ex2_53 ha (by omega) (by decide) (by decide) (by decide) (by decide) g1 a53_121 a53_122 a53_123 a53_126 a53_129 a53_130 a53_133 a53_136 a53_139 a53_144 a53_145 a53_148 a53_151 a53_152 a53_155 a53_158 a53_159 a53_162 a53_165 a53_168 g3 g4 (K0 _ _ _ _ _ g2) (K0 _ _ _ _ _ g5)
  have K1 : ∀ pc al st E h, e2_run (e2_cal S_c177 I_c177 4000 2) (e2_fin rs_c177) e2x_53 (e2_bpL cm_c177_1) (e2_cutA cm_c177_1) 4000 (e2_seek e2x_53 pc) al st E h = true → e2_gdM M p l e R s m args below meth c Q D cA A ads r0 pc al st E h := fun pc al st E h hr => e2_from hen ha hcall (e2_cutA_ok (e2_fa S1 e2_fz)) (hC []) (X := e2x_53) ex2_53 pc hr
  exact K1 0 _ _ _ _ ck_c177
/-! c178 X3_passNumber -/
def as_c178 : List ev_V := [(2, 33, 0), (0, 4, 0), (0, 20, 0)]
def E_c178 : e2_E := [(2147483648, 2147583648, 0, 0), (2147483652, 2147483668, 1, 0), (2147483648, 2147485248, 2, 0)]
noncomputable def f_c178 : ev_H := (cn603 : e2_Q8)
noncomputable def q_c178_0 : ev_H := (cn617 : e2_Q8)
def cc178 : ev_C := (3, [(2, 34, 0), (2, 1, 0), (1, 2, 4294967296), (11, 2147483648, 2147483649), (11, 0, 4294967295), (11, 2147483652, 2147483668), (11, 0, 4294967295), (11, 0, 4294967295)])
def cn713 : e2_Q1 := (cc178, cc3)
def cn714 : e2_Q2 := (cn713, cn131)
def cn715 : e2_Q3 := (cn129, cn714)
def cn716 : e2_Q4 := (cn715, cn140)
def cn717 : e2_Q5 := (cn716, cn156)
def cn718 : e2_Q6 := (cn717, cn188)
def cn719 : e2_Q7 := (cn718, cn252)
def cn720 : e2_Q8 := (cn269, cn719)
noncomputable def q_c178_1 : ev_H := (cn720 : e2_Q8)
noncomputable def rs_c178 : e2_Rs := [((0, 0, 0), q_c178_0), ((0, 1, 0), q_c178_1)]
noncomputable def s_c178 : e2_Sm := (47, as_c178, E_c178, f_c178, rs_c178)
noncomputable def S_c178 : List e2_Sm := [s_c38]
noncomputable def I_c178 : List e2_In := [(43, 2, e2x_43), (44, 3, e2x_44), (46, 3, e2x_46)]
set_option maxRecDepth 1000000 in
theorem ck_c178 : e2_run (e2_cal S_c178 I_c178 4000 3) (e2_fin rs_c178) e2x_47 (fun _ => false) (fun _ _ _ _ _ => false) 4000 (e2_seek e2x_47 0) (e2_al 3 as_c178) [] E_c178 f_c178 = true := by decide +kernel
set_option maxRecDepth 1000000 in
theorem co_c178 : e2_okSB E_c178.length as_c178 f_c178 rs_c178 = true := by decide +kernel
theorem cs_c178 (hen : en_ok) (l : Launch) (hh : e2_hand_c l) : e2_smOk l 66 s_c178 := e2_con0 (H := 62) (n := 3) (C := evd_47) (S := S_c178) (I := I_c178) (fuel := 4000) [] hen ei_47 (e2_fa (cs_c38 hen l hh) e2_fz) (e2_fa ein_43 (e2_fa ein_44 (e2_fa ein_46 e2_fz))) (by decide) co_c178 ex2_47 ck_c178
/-! c179 X3_parseSize -/
def as_c179 : List ev_V := [(2, 33, 0)]
def E_c179 : e2_E := [(2147483648, 2147583648, 0, 0), (2147483652, 2147483668, 1, 0), (2147483648, 2147485248, 2, 0)]
noncomputable def f_c179 : ev_H := (cn609 : e2_Q8)
noncomputable def q_c179_0 : ev_H := (cn609 : e2_Q8)
noncomputable def rs_c179 : e2_Rs := [((11, 2147483648, 2147483649), q_c179_0)]
noncomputable def s_c179 : e2_Sm := (51, as_c179, E_c179, f_c179, rs_c179)
noncomputable def S_c179 : List e2_Sm := [s_c38, s_c39, s_c178]
noncomputable def I_c179 : List e2_In := [(43, 2, e2x_43), (44, 3, e2x_44)]
set_option maxRecDepth 1000000 in
theorem ck_c179 : e2_run (e2_cal S_c179 I_c179 4000 2) (e2_fin rs_c179) e2x_51 (fun _ => false) (fun _ _ _ _ _ => false) 4000 (e2_seek e2x_51 0) (e2_al 1 as_c179) [] E_c179 f_c179 = true := by decide +kernel
set_option maxRecDepth 1000000 in
theorem co_c179 : e2_okSB E_c179.length as_c179 f_c179 rs_c179 = true := by decide +kernel
theorem cs_c179 (hen : en_ok) (l : Launch) (hh : e2_hand_c l) : e2_smOk l 69 s_c179 := e2_con0 (H := 66) (n := 2) (C := evd_51) (S := S_c179) (I := I_c179) (fuel := 4000) [] hen ei_51 (e2_fa ((cs_c38 hen l hh).mono (by decide)) (e2_fa ((cs_c39 hen l hh).mono (by decide)) (e2_fa (cs_c178 hen l hh) e2_fz))) (e2_fa ein_43 (e2_fa ein_44 e2_fz)) (by decide) co_c179 ex2_51 ck_c179
/-! c180 X3_indexOf -/
def as_c180 : List ev_V := [(5, 0, 0), (2, 2, 0), (11, 2147483648, 2147483651)]
def E_c180 : e2_E := [(2147483648, 2147583648, 0, 0), (2147483652, 2147483668, 1, 0)]
def cn721 : e2_Q3 := (cn689, cn297)
def cn722 : e2_Q4 := (cn721, cn76)
def cn723 : e2_Q5 := (cn722, cn92)
def cn724 : e2_Q6 := (cn723, cn124)
def cn725 : e2_Q7 := (cn62, cn724)
def cn726 : e2_Q8 := (cn725, cn276)
noncomputable def f_c180 : ev_H := (cn726 : e2_Q8)
noncomputable def q_c180_0 : ev_H := (cn726 : e2_Q8)
noncomputable def rs_c180 : e2_Rs := [((11, 2147483647, 2147483650), q_c180_0)]
noncomputable def s_c180 : e2_Sm := (48, as_c180, E_c180, f_c180, rs_c180)
noncomputable def S_c180 : List e2_Sm := []
noncomputable def I_c180 : List e2_In := []
set_option maxRecDepth 1000000 in
theorem co_c180 : e2_okSB E_c180.length as_c180 f_c180 rs_c180 = true := by decide +kernel
def al_c180_0 : List ev_V := [(5, 0, 0), (9, 0, 0), (2, 2, 0), (11, 2147483648, 2147483651), (1, 2, 4294967296)]
def E_c180_0 : e2_E := [(2147483648, 2147583648, 0, 0), (2147483652, 2147483668, 1, 0), (2147483648, 2147483651, 2, 0)]
noncomputable def h_c180_0 : ev_H := (cn726 : e2_Q8)
noncomputable def cl_c180_e : List (Nat × e2_S) := [(3, e2_cutL (al_c180_0.set 4 (11, 2147483648, 2147483651)) 2 (E_c180_0.take 2) h_c180_0)]
set_option maxRecDepth 1000000 in
theorem ck_c180_e : e2_run (e2_cal S_c180 I_c180 4000 0) (e2_fin rs_c180) e2x_48 (e2_bpL cl_c180_e) (e2_cutA cl_c180_e) 4000 (e2_seek e2x_48 0) (e2_al 5 as_c180) [] E_c180 f_c180 = true := by decide +kernel
noncomputable def cl_c180_0 : List (Nat × e2_S) := [(3, e2_cutL (al_c180_0.set 4 (13, 10, 2147483651)) 2 (E_c180_0.take 2) h_c180_0)]
set_option maxRecDepth 1000000 in
theorem ck_c180_0 : e2_runM (e2_cal S_c180 I_c180 4000 0) (e2_fin rs_c180) e2x_48 (e2_bpL cl_c180_0) (e2_cutA cl_c180_0) 4000 (e2_seek e2x_48 3) al_c180_0 [] E_c180_0 h_c180_0 = true := by decide +kernel
set_option maxRecDepth 1000000 in
theorem ci_c180_0 : e2_idl 2 (al_c180_0.set 4 (9, 0, 0)) = true := by decide +kernel
set_option maxRecDepth 1000000 in
theorem cj_c180_0 : e2_idh 2 8 h_c180_0 = true := by decide +kernel
theorem cs_c180 (hen : en_ok) (l : Launch) : e2_smOk l 1 s_c180 := by
  refine e2_conG (H := 0) (n := 0) (C := evd_48) (S := S_c180) (I := I_c180) (fuel := 4000) hen ei_48 e2_fz e2_fz (by decide) co_c180 fun M d _ hC hcall p e R s m args below meth c Q D cA A ads r0 ha hl0 => ?_
  have L_0 : e2_gdM M p l e R s m args below meth c Q D cA A ads r0 3 al_c180_0 [] E_c180_0 h_c180_0 := by
    refine e2_indL (u := 2) (j := 4) (lo := 2147483648) (hi := 2147483651) (b := 2) (dd := 0) hl0 (by decide) rfl rfl (Or.inr ⟨rfl, rfl⟩) rfl ci_c180_0 cj_c180_0 ?_
    intro r_0 k_0 hk_0 hp_0 hs_0 hn_0
    have hl_0 : r_0.length ≤ 3 := hs_0.len rfl
    have ha_0 := ha.ext hp_0
    exact e2_fromM hen ha_0 hcall (e2_cutA_ok (e2_fa (fun al st E h hc => hn_0 al st E h hc) e2_fz)) (hC []) (X := e2x_48) ex2_48 3 ck_c180_0
  have EN_0 := e2_entL (u := 2) (j := 4) (lo := 2147483648) (hi := 2147483651) hl0 rfl rfl rfl ci_c180_0 cj_c180_0 L_0
  exact e2_from hen ha hcall (e2_cutA_ok (e2_fa (fun al st E h hc => EN_0 al st E h hc) e2_fz)) (hC []) (X := e2x_48) ex2_48 0 ck_c180_e
/-! c181 X3_isNewName -/
def as_c181 : List ev_V := [(2, 33, 0), (2, 2, 0), (11, 2147483648, 2147483651)]
def E_c181 : e2_E := [(2147483648, 2147583648, 0, 0), (2147483652, 2147483668, 1, 0), (2147483648, 2147485248, 2, 0)]
def cn727 : e2_Q4 := (cn690, cn76)
def cn728 : e2_Q5 := (cn727, cn92)
def cn729 : e2_Q6 := (cn728, cn124)
def cn730 : e2_Q7 := (cn62, cn729)
def cn731 : e2_Q8 := (cn730, cn640)
noncomputable def f_c181 : ev_H := (cn731 : e2_Q8)
noncomputable def q_c181_0 : ev_H := (cn731 : e2_Q8)
noncomputable def rs_c181 : e2_Rs := [((11, 2147483648, 2147483649), q_c181_0)]
noncomputable def s_c181 : e2_Sm := (49, as_c181, E_c181, f_c181, rs_c181)
noncomputable def S_c181 : List e2_Sm := [s_c180]
noncomputable def I_c181 : List e2_In := [(43, 2, e2x_43), (44, 3, e2x_44)]
set_option maxRecDepth 1000000 in
theorem ck_c181 : e2_run (e2_cal S_c181 I_c181 4000 2) (e2_fin rs_c181) e2x_49 (fun _ => false) (fun _ _ _ _ _ => false) 4000 (e2_seek e2x_49 0) (e2_al 3 as_c181) [] E_c181 f_c181 = true := by decide +kernel
set_option maxRecDepth 1000000 in
theorem co_c181 : e2_okSB E_c181.length as_c181 f_c181 rs_c181 = true := by decide +kernel
theorem cs_c181 (hen : en_ok) (l : Launch) : e2_smOk l 4 s_c181 := e2_con0 (H := 1) (n := 2) (C := evd_49) (S := S_c181) (I := I_c181) (fuel := 4000) [] hen ei_49 (e2_fa (cs_c180 hen l) e2_fz) (e2_fa ein_43 (e2_fa ein_44 e2_fz)) (by decide) co_c181 ex2_49 ck_c181
/-! c182 X3_passNumber -/
def as_c182 : List ev_V := [(2, 33, 0), (0, 0, 0), (0, 99, 0)]
def E_c182 : e2_E := [(2147483648, 2147583648, 0, 0), (2147483652, 2147483668, 1, 0), (2147483648, 2147485248, 2, 0)]
noncomputable def f_c182 : ev_H := (cn603 : e2_Q8)
noncomputable def q_c182_0 : ev_H := (cn617 : e2_Q8)
def cc179 : ev_C := (3, [(2, 34, 0), (2, 1, 0), (1, 2, 4294967296), (11, 2147483648, 2147483649), (11, 0, 4294967295), (11, 2147483648, 2147483747), (11, 0, 4294967295), (11, 0, 4294967295)])
def cn732 : e2_Q1 := (cc179, cc3)
def cn733 : e2_Q2 := (cn732, cn131)
def cn734 : e2_Q3 := (cn129, cn733)
def cn735 : e2_Q4 := (cn734, cn140)
def cn736 : e2_Q5 := (cn735, cn156)
def cn737 : e2_Q6 := (cn736, cn188)
def cn738 : e2_Q7 := (cn737, cn252)
def cn739 : e2_Q8 := (cn269, cn738)
noncomputable def q_c182_1 : ev_H := (cn739 : e2_Q8)
noncomputable def rs_c182 : e2_Rs := [((0, 0, 0), q_c182_0), ((0, 1, 0), q_c182_1)]
noncomputable def s_c182 : e2_Sm := (47, as_c182, E_c182, f_c182, rs_c182)
noncomputable def S_c182 : List e2_Sm := [s_c38]
noncomputable def I_c182 : List e2_In := [(43, 2, e2x_43), (44, 3, e2x_44), (46, 3, e2x_46)]
set_option maxRecDepth 1000000 in
theorem ck_c182 : e2_run (e2_cal S_c182 I_c182 4000 3) (e2_fin rs_c182) e2x_47 (fun _ => false) (fun _ _ _ _ _ => false) 4000 (e2_seek e2x_47 0) (e2_al 3 as_c182) [] E_c182 f_c182 = true := by decide +kernel
set_option maxRecDepth 1000000 in
theorem co_c182 : e2_okSB E_c182.length as_c182 f_c182 rs_c182 = true := by decide +kernel
theorem cs_c182 (hen : en_ok) (l : Launch) (hh : e2_hand_c l) : e2_smOk l 66 s_c182 := e2_con0 (H := 62) (n := 3) (C := evd_47) (S := S_c182) (I := I_c182) (fuel := 4000) [] hen ei_47 (e2_fa (cs_c38 hen l hh) e2_fz) (e2_fa ein_43 (e2_fa ein_44 (e2_fa ein_46 e2_fz))) (by decide) co_c182 ex2_47 ck_c182
/-! c183 X3_parseThing -/
def as_c183 : List ev_V := [(2, 33, 0)]
def E_c183 : e2_E := [(2147483648, 2147583648, 0, 0), (2147483652, 2147483668, 1, 0), (2147483648, 2147485248, 2, 0)]
def cn740 : e2_Q3 := (cn471, cn195)
def cn741 : e2_Q4 := (cn740, cn203)
def cn742 : e2_Q5 := (cn741, cn219)
def cn743 : e2_Q6 := (cn742, cn251)
def cn744 : e2_Q7 := (cn607, cn743)
def cn745 : e2_Q8 := (cn730, cn744)
noncomputable def f_c183 : ev_H := (cn745 : e2_Q8)
noncomputable def q_c183_0 : ev_H := (cn745 : e2_Q8)
noncomputable def rs_c183 : e2_Rs := [((11, 2147483648, 2147483649), q_c183_0)]
noncomputable def s_c183 : e2_Sm := (52, as_c183, E_c183, f_c183, rs_c183)
noncomputable def S_c183 : List e2_Sm := [s_c38, s_c39, s_c181, s_c182]
noncomputable def I_c183 : List e2_In := [(43, 2, e2x_43), (44, 3, e2x_44), (118, 4, e2x_118)]
set_option maxRecDepth 1000000 in
theorem ck_c183 : e2_run (e2_cal S_c183 I_c183 4000 2) (e2_fin rs_c183) e2x_52 (fun _ => false) (fun _ _ _ _ _ => false) 4000 (e2_seek e2x_52 0) (e2_al 3 as_c183) [] E_c183 f_c183 = true := by decide +kernel
set_option maxRecDepth 1000000 in
theorem co_c183 : e2_okSB E_c183.length as_c183 f_c183 rs_c183 = true := by decide +kernel
theorem cs_c183 (hen : en_ok) (l : Launch) (hh : e2_hand_c l) : e2_smOk l 69 s_c183 := e2_con0 (H := 66) (n := 2) (C := evd_52) (S := S_c183) (I := I_c183) (fuel := 4000) [] hen ei_52 (e2_fa ((cs_c38 hen l hh).mono (by decide)) (e2_fa ((cs_c39 hen l hh).mono (by decide)) (e2_fa ((cs_c181 hen l).mono (by decide)) (e2_fa (cs_c182 hen l hh) e2_fz)))) (e2_fa ein_43 (e2_fa ein_44 (e2_fa ein_118 e2_fz))) (by decide) co_c183 ex2_52 ck_c183
/-! c184 X7_begin -/
def as_c184 : List ev_V := [(2, 34, 0)]
def E_c184 : e2_E := [(2147483648, 2147583648, 0, 0), (2147483652, 2147483668, 1, 0)]
noncomputable def f_c184 : ev_H := (cn587 : e2_Q8)
noncomputable def q_c184_0 : ev_H := (cn587 : e2_Q8)
noncomputable def rs_c184 : e2_Rs := [((9, 0, 0), q_c184_0)]
noncomputable def s_c184 : e2_Sm := (107, as_c184, E_c184, f_c184, rs_c184)
noncomputable def S_c184 : List e2_Sm := [s_c38]
noncomputable def I_c184 : List e2_In := []
set_option maxRecDepth 1000000 in
theorem ck_c184 : e2_run (e2_cal S_c184 I_c184 4000 0) (e2_fin rs_c184) e2x_107 (fun _ => false) (fun _ _ _ _ _ => false) 4000 (e2_seek e2x_107 0) (e2_al 1 as_c184) [] E_c184 f_c184 = true := by decide +kernel
set_option maxRecDepth 1000000 in
theorem co_c184 : e2_okSB E_c184.length as_c184 f_c184 rs_c184 = true := by decide +kernel
theorem cs_c184 (hen : en_ok) (l : Launch) (hh : e2_hand_c l) : e2_smOk l 63 s_c184 := e2_con0 (H := 62) (n := 0) (C := evd_107) (S := S_c184) (I := I_c184) (fuel := 4000) [] hen ei_107 (e2_fa (cs_c38 hen l hh) e2_fz) e2_fz (by decide) co_c184 ex2_107 ck_c184
/-! c185 X8_clear -/
def as_c185 : List ev_V := [(2, 1, 0)]
def E_c185 : e2_E := [(2147483648, 2147583648, 0, 0), (2147483652, 2147483668, 1, 0)]
def cn746 : e2_Q5 := (cn455, cn664)
def cn747 : e2_Q6 := (cn746, cn646)
def cn748 : e2_Q7 := (cn62, cn747)
def cn749 : e2_Q5 := (cn462, cn670)
def cn750 : e2_Q6 := (cn749, cn188)
def cn751 : e2_Q5 := (cn273, cn635)
def cn752 : e2_Q6 := (cn751, cn251)
def cn753 : e2_Q7 := (cn750, cn752)
def cn754 : e2_Q8 := (cn748, cn753)
noncomputable def f_c185 : ev_H := (cn754 : e2_Q8)
noncomputable def q_c185_0 : ev_H := (cn754 : e2_Q8)
noncomputable def rs_c185 : e2_Rs := [((9, 0, 0), q_c185_0)]
noncomputable def s_c185 : e2_Sm := (117, as_c185, E_c185, f_c185, rs_c185)
noncomputable def S_c185 : List e2_Sm := []
noncomputable def I_c185 : List e2_In := [(16, 1, e2x_16)]
set_option maxRecDepth 1000000 in
theorem co_c185 : e2_okSB E_c185.length as_c185 f_c185 rs_c185 = true := by decide +kernel
def al_c185_0 : List ev_V := [(2, 1, 0), (1, 2, 4294967296)]
def E_c185_0 : e2_E := [(2147483648, 2147583648, 0, 0), (2147483652, 2147483668, 1, 0), (2147483648, 2147483656, 2, 0)]
noncomputable def h_c185_0 : ev_H := (cn754 : e2_Q8)
noncomputable def cl_c185_e : List (Nat × e2_S) := [(52, e2_cutL (al_c185_0.set 1 (11, 2147483648, 2147483656)) 2 (E_c185_0.take 2) h_c185_0)]
set_option maxRecDepth 1000000 in
theorem ck_c185_e : e2_run (e2_cal S_c185 I_c185 4000 1) (e2_fin rs_c185) e2x_117 (e2_bpL cl_c185_e) (e2_cutA cl_c185_e) 4000 (e2_seek e2x_117 0) (e2_al 2 as_c185) [] E_c185 f_c185 = true := by decide +kernel
noncomputable def cl_c185_0 : List (Nat × e2_S) := [(52, e2_cutL (al_c185_0.set 1 (13, 10, 2147483656)) 2 (E_c185_0.take 2) h_c185_0)]
set_option maxRecDepth 1000000 in
theorem ck_c185_0 : e2_runM (e2_cal S_c185 I_c185 4000 1) (e2_fin rs_c185) e2x_117 (e2_bpL cl_c185_0) (e2_cutA cl_c185_0) 4000 (e2_seek e2x_117 52) al_c185_0 [] E_c185_0 h_c185_0 = true := by decide +kernel
set_option maxRecDepth 1000000 in
theorem ci_c185_0 : e2_idl 2 (al_c185_0.set 1 (9, 0, 0)) = true := by decide +kernel
set_option maxRecDepth 1000000 in
theorem cj_c185_0 : e2_idh 2 8 h_c185_0 = true := by decide +kernel
theorem cs_c185 (hen : en_ok) (l : Launch) : e2_smOk l 2 s_c185 := by
  refine e2_conG (H := 0) (n := 1) (C := evd_117) (S := S_c185) (I := I_c185) (fuel := 4000) hen ei_117 e2_fz (e2_fa ein_16 e2_fz) (by decide) co_c185 fun M d _ hC hcall p e R s m args below meth c Q D cA A ads r0 ha hl0 => ?_
  have L_0 : e2_gdM M p l e R s m args below meth c Q D cA A ads r0 52 al_c185_0 [] E_c185_0 h_c185_0 := by
    refine e2_indL (u := 2) (j := 1) (lo := 2147483648) (hi := 2147483656) (b := 2) (dd := 0) hl0 (by decide) rfl rfl (Or.inr ⟨rfl, rfl⟩) rfl ci_c185_0 cj_c185_0 ?_
    intro r_0 k_0 hk_0 hp_0 hs_0 hn_0
    have hl_0 : r_0.length ≤ 3 := hs_0.len rfl
    have ha_0 := ha.ext hp_0
    exact e2_fromM hen ha_0 hcall (e2_cutA_ok (e2_fa (fun al st E h hc => hn_0 al st E h hc) e2_fz)) (hC []) (X := e2x_117) ex2_117 52 ck_c185_0
  have EN_0 := e2_entL (u := 2) (j := 1) (lo := 2147483648) (hi := 2147483656) hl0 rfl rfl rfl ci_c185_0 cj_c185_0 L_0
  exact e2_from hen ha hcall (e2_cutA_ok (e2_fa (fun al st E h hc => EN_0 al st E h hc) e2_fz)) (hC []) (X := e2x_117) ex2_117 0 ck_c185_e
/-! c186 X3_parse -/
def as_c186 : List ev_V := [(2, 33, 0), (2, 1, 0)]
def E_c186 : e2_E := [(2147483648, 2147583648, 0, 0), (2147483652, 2147483668, 1, 0)]
def cn755 : e2_Q5 := (cn685, cn628)
def cn756 : e2_Q6 := (cn682, cn755)
def cn757 : e2_Q5 := (cn691, cn664)
def cn758 : e2_Q5 := (cn693, cn645)
def cn759 : e2_Q6 := (cn757, cn758)
def cn760 : e2_Q7 := (cn756, cn759)
def cc180 : ev_C := (3, [(2, 34, 0), (7, 0, 0), (11, 2147483648, 2147485248), (11, 2147483648, 2147483649), (11, 0, 4294967295), (11, 0, 4294967295), (11, 0, 4294967295), (11, 0, 4294967295)])
def cn761 : e2_Q1 := (cc180, cc3)
def cn762 : e2_Q2 := (cn761, cn131)
def cn763 : e2_Q3 := (cn460, cn762)
def cn764 : e2_Q4 := (cn763, cn140)
def cn765 : e2_Q5 := (cn764, cn670)
def cn766 : e2_Q6 := (cn765, cn701)
def cn767 : e2_Q4 := (cn740, cn341)
def cn768 : e2_Q5 := (cn767, cn635)
def cn769 : e2_Q5 := (cn708, cn651)
def cn770 : e2_Q6 := (cn768, cn769)
def cn771 : e2_Q7 := (cn766, cn770)
def cn772 : e2_Q8 := (cn760, cn771)
noncomputable def f_c186 : ev_H := (cn772 : e2_Q8)
def cc181 : ev_C := (3, [(2, 34, 0), (2, 1, 0), (11, 2147483648, 2147485248), (11, 2147483648, 2147483649), (11, 0, 4294967295), (11, 0, 4294967295), (11, 0, 4294967295), (11, 0, 4294967295)])
def cn773 : e2_Q1 := (cc181, cc3)
def cn774 : e2_Q2 := (cn773, cn131)
def cn775 : e2_Q3 := (cn460, cn774)
def cn776 : e2_Q4 := (cn775, cn140)
def cn777 : e2_Q5 := (cn776, cn670)
def cn778 : e2_Q6 := (cn777, cn701)
def cn779 : e2_Q7 := (cn778, cn770)
def cn780 : e2_Q8 := (cn760, cn779)
noncomputable def q_c186_0 : ev_H := (cn780 : e2_Q8)
noncomputable def rs_c186 : e2_Rs := [((11, 2147483648, 2147483649), q_c186_0)]
noncomputable def s_c186 : e2_Sm := (42, as_c186, E_c186, f_c186, rs_c186)
noncomputable def S_c186 : List e2_Sm := [s_c40, s_c42, s_c107, s_c172, s_c173, s_c177, s_c179, s_c183, s_c184, s_c185]
noncomputable def I_c186 : List e2_In := [(43, 2, e2x_43), (44, 3, e2x_44)]
set_option maxRecDepth 1000000 in
theorem co_c186 : e2_okSB E_c186.length as_c186 f_c186 rs_c186 = true := by decide +kernel
def al_c186_0 : List ev_V := [(2, 33, 0), (2, 1, 0), (11, 2147483648, 2147483649)]
def E_c186_0 : e2_E := [(2147483648, 2147583648, 0, 0), (2147483652, 2147483668, 1, 0), (2147483648, 2147485248, 2, 0)]
def cn781 : e2_Q6 := (cn671, cn701)
def cn782 : e2_Q7 := (cn781, cn770)
def cn783 : e2_Q8 := (cn760, cn782)
noncomputable def h_c186_0 : ev_H := (cn783 : e2_Q8)
noncomputable def cl_c186_e : List (Nat × e2_S) := [(41, e2_cutL al_c186_0 2 (E_c186_0.take 2) (ev_hs h_c186_0 33 ((ev_hg h_c186_0 33).1, (ev_hg h_c186_0 33).2.set 2 (11, 2147483648, 2147485248))))]
set_option maxRecDepth 1000000 in
theorem ck_c186_e : e2_run (e2_cal S_c186 I_c186 4000 2) (e2_fin rs_c186) e2x_42 (e2_bpL cl_c186_e) (e2_cutA cl_c186_e) 4000 (e2_seek e2x_42 0) (e2_al 3 as_c186) [] E_c186 f_c186 = true := by decide +kernel
noncomputable def cl_c186_0 : List (Nat × e2_S) := [(41, e2_cutL al_c186_0 2 (E_c186_0.take 2) (ev_hs h_c186_0 33 ((ev_hg h_c186_0 33).1, (ev_hg h_c186_0 33).2.set 2 (13, 10, 2147485248))))]
set_option maxRecDepth 1000000 in
theorem ck_c186_0 : e2_runM (e2_cal S_c186 I_c186 4000 2) (e2_fin rs_c186) e2x_42 (e2_bpL cl_c186_0) (e2_cutA cl_c186_0) 4000 (e2_seek e2x_42 41) al_c186_0 [] E_c186_0 h_c186_0 = true := by decide +kernel
set_option maxRecDepth 1000000 in
theorem ci_c186_0 : e2_idl 2 al_c186_0 = true := by decide +kernel
set_option maxRecDepth 1000000 in
theorem cj_c186_0 : e2_idh 2 8 (ev_hs h_c186_0 33 ((ev_hg h_c186_0 33).1, (ev_hg h_c186_0 33).2.set 2 (7, 0, 0))) = true := by decide +kernel
set_option maxRecDepth 1000000 in
theorem cg_c186_0 : (ev_hg h_c186_0 33).1 < 50 ∧ (ev_hg h_c186_0 33).2[2]? = some (1, 2, 4294967296) := by decide +kernel
theorem cs_c186 (hen : en_ok) (l : Launch) (hh : e2_hand_c l) : e2_smOk l 220 s_c186 := by
  refine e2_conG (H := 217) (n := 2) (C := evd_42) (S := S_c186) (I := I_c186) (fuel := 4000) hen ei_42 (e2_fa ((cs_c40 hen l hh).mono (by decide)) (e2_fa ((cs_c42 hen l hh).mono (by decide)) (e2_fa (cs_c107 hen l hh) (e2_fa (cs_c172 hen l hh) (e2_fa ((cs_c173 hen l hh).mono (by decide)) (e2_fa ((cs_c177 hen l hh).mono (by decide)) (e2_fa ((cs_c179 hen l hh).mono (by decide)) (e2_fa ((cs_c183 hen l hh).mono (by decide)) (e2_fa ((cs_c184 hen l hh).mono (by decide)) (e2_fa ((cs_c185 hen l).mono (by decide)) e2_fz)))))))))) (e2_fa ein_43 (e2_fa ein_44 e2_fz)) (by decide) co_c186 fun M d _ hC hcall p e R s m args below meth c Q D cA A ads r0 ha hl0 => ?_
  have L_0 : e2_gdM M p l e R s m args below meth c Q D cA A ads r0 41 al_c186_0 [] E_c186_0 h_c186_0 := by
    refine e2_indH (u := 2) (a := 33) (j := 2) (lo := 2147483648) (hi := 2147485248) (b := 2) (dd := 0) hl0 (by decide) rfl rfl (Or.inr ⟨rfl, rfl⟩) (by decide) cg_c186_0.1 cg_c186_0.2 ci_c186_0 cj_c186_0 rfl ?_
    intro r_0 k_0 hk_0 hp_0 hs_0 hn_0
    have hl_0 : r_0.length ≤ 3 := hs_0.len rfl
    have ha_0 := ha.ext hp_0
    exact e2_fromM hen ha_0 hcall (e2_cutA_ok (e2_fa (fun al st E h hc => hn_0 al st E h hc) e2_fz)) (hC []) (X := e2x_42) ex2_42 41 ck_c186_0
  have EN_0 := e2_entH (u := 2) (a := 33) (j := 2) (lo := 2147483648) (hi := 2147485248) hl0 rfl rfl (by decide) cg_c186_0.1 cg_c186_0.2 ci_c186_0 cj_c186_0 rfl L_0
  exact e2_from hen ha hcall (e2_cutA_ok (e2_fa (fun al st E h hc => EN_0 al st E h hc) e2_fz)) (hC []) (X := e2x_42) ex2_42 0 ck_c186_e
