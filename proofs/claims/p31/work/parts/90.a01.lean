/-! CONTRACTS a, printed by a program -/
/-! a8 X6_begin -/
def as_a8 : List ev_V := [(2, 36, 0), (2, 17, 0)]
def E_a8 : e2_E := [(2147483648, 2147583648, 0, 0), (2147483652, 2147483668, 1, 0)]
def ac157 : ev_C := (6, [(11, 0, 4294967295), (11, 0, 4294967295), (11, 0, 4294967295), (2, 38, 0), (2, 37, 0), (2, 39, 0)])
def an447 : e2_Q1 := (ac157, ac3)
def an448 : e2_Q2 := (an447, an35)
def an449 : e2_Q3 := (an33, an448)
def an450 : e2_Q4 := (an449, an44)
def an451 : e2_Q5 := (an450, an60)
def an452 : e2_Q6 := (an30, an451)
def an453 : e2_Q4 := (an298, an76)
def an454 : e2_Q5 := (an453, an92)
def an455 : e2_Q6 := (an454, an124)
def an456 : e2_Q7 := (an452, an455)
def ac158 : ev_C := (8, [(11, 2147483652, 2147483668), (11, 2147483648, 2147483656), (11, 0, 4294967295), (2, 19, 0), (2, 25, 0), (2, 26, 0), (11, 2147483648, 2147483652), (11, 0, 4294967295), (11, 0, 4294967295), (11, 0, 4294967295), (2, 27, 0), (2, 30, 0), (2, 18, 0), (2, 20, 0), (2, 21, 0), (2, 22, 0), (2, 23, 0), (2, 24, 0)])
def an457 : e2_Q1 := (ac158, ac3)
def an458 : e2_Q2 := (an457, an135)
def an459 : e2_Q3 := (an458, an139)
def an460 : e2_Q4 := (an133, an459)
def an461 : e2_Q5 := (an460, an156)
def ac159 : ev_C := (54, [(0, 4, 0), (11, 0, 4294967295)])
def an462 : e2_Q1 := (ac159, ac3)
def an463 : e2_Q2 := (an462, an162)
def an464 : e2_Q3 := (an160, an463)
def an465 : e2_Q4 := (an464, an171)
def an466 : e2_Q5 := (an465, an187)
def an467 : e2_Q6 := (an461, an466)
def an468 : e2_Q2 := (an462, an198)
def an469 : e2_Q3 := (an468, an202)
def an470 : e2_Q4 := (an272, an469)
def an471 : e2_Q5 := (an470, an219)
def an472 : e2_Q6 := (an471, an251)
def an473 : e2_Q7 := (an467, an472)
def an474 : e2_Q8 := (an456, an473)
noncomputable def f_a8 : ev_H := (an474 : e2_Q8)
noncomputable def q_a8_0 : ev_H := (an474 : e2_Q8)
noncomputable def rs_a8 : e2_Rs := [((9, 0, 0), q_a8_0)]
noncomputable def s_a8 : e2_Sm := (8, as_a8, E_a8, f_a8, rs_a8)
noncomputable def S_a8 : List e2_Sm := []
noncomputable def I_a8 : List e2_In := []
set_option maxRecDepth 1000000 in
theorem co_a8 : e2_okSB E_a8.length as_a8 f_a8 rs_a8 = true := by decide +kernel
def al_a8_0 : List ev_V := [(2, 36, 0), (2, 17, 0), (1, 2, 4294967296)]
def E_a8_0 : e2_E := [(2147483648, 2147583648, 0, 0), (2147483652, 2147483668, 1, 0), (2147483648, 2147483652, 2, 0)]
noncomputable def h_a8_0 : ev_H := (an474 : e2_Q8)
noncomputable def cl_a8_e : List (Nat × e2_S) := [(20, e2_cutL (al_a8_0.set 2 (11, 2147483648, 2147483652)) 2 (E_a8_0.take 2) h_a8_0)]
set_option maxRecDepth 1000000 in
theorem ck_a8_e : e2_run (e2_cal S_a8 I_a8 4000 0) (e2_fin rs_a8) e2x_8 (e2_bpL cl_a8_e) (e2_cutA cl_a8_e) 4000 (e2_seek e2x_8 0) (e2_al 3 as_a8) [] E_a8 f_a8 = true := by decide +kernel
noncomputable def cl_a8_0 : List (Nat × e2_S) := [(20, e2_cutL (al_a8_0.set 2 (13, 10, 2147483652)) 2 (E_a8_0.take 2) h_a8_0)]
set_option maxRecDepth 1000000 in
theorem ck_a8_0 : e2_runM (e2_cal S_a8 I_a8 4000 0) (e2_fin rs_a8) e2x_8 (e2_bpL cl_a8_0) (e2_cutA cl_a8_0) 4000 (e2_seek e2x_8 20) al_a8_0 [] E_a8_0 h_a8_0 = true := by decide +kernel
set_option maxRecDepth 1000000 in
theorem ci_a8_0 : e2_idl 2 (al_a8_0.set 2 (9, 0, 0)) = true := by decide +kernel
set_option maxRecDepth 1000000 in
theorem cj_a8_0 : e2_idh 2 8 h_a8_0 = true := by decide +kernel
theorem cs_a8 (hen : en_ok) (l : Launch) : e2_smOk l 1 s_a8 := by
  refine e2_conG (H := 0) (n := 0) (C := evd_8) (S := S_a8) (I := I_a8) (fuel := 4000) hen ei_8 e2_fz e2_fz (by decide) co_a8 fun M d _ hC hcall p e R s m args below meth c Q D cA A ads r0 ha hl0 => ?_
  have L_0 : e2_gdM M p l e R s m args below meth c Q D cA A ads r0 20 al_a8_0 [] E_a8_0 h_a8_0 := by
    refine e2_indL (u := 2) (j := 2) (lo := 2147483648) (hi := 2147483652) (b := 2) (dd := 0) hl0 (by decide) rfl rfl (Or.inr ⟨rfl, rfl⟩) rfl ci_a8_0 cj_a8_0 ?_
    intro r_0 k_0 hk_0 hp_0 hs_0 hn_0
    have hl_0 : r_0.length ≤ 3 := hs_0.len rfl
    have ha_0 := ha.ext hp_0
    exact e2_fromM hen ha_0 hcall (e2_cutA_ok (e2_fa (fun al st E h hc => hn_0 al st E h hc) e2_fz)) (hC []) (X := e2x_8) ex2_8 20 ck_a8_0
  have EN_0 := e2_entL (u := 2) (j := 2) (lo := 2147483648) (hi := 2147483652) hl0 rfl rfl rfl ci_a8_0 cj_a8_0 L_0
  exact e2_from hen ha hcall (e2_cutA_ok (e2_fa (fun al st E h hc => EN_0 al st E h hc) e2_fz)) (hC []) (X := e2x_8) ex2_8 0 ck_a8_e
/-! a9 X0_join -/
def as_a9 : List ev_V := [(11, 0, 4294967295), (11, 0, 4294967295), (11, 0, 4294967295)]
def E_a9 : e2_E := [(2147483648, 2147583648, 0, 0), (2147483652, 2147483668, 1, 0)]
def an475 : e2_Q7 := (an62, an455)
def an476 : e2_Q8 := (an475, an276)
noncomputable def f_a9 : ev_H := (an476 : e2_Q8)
noncomputable def q_a9_0 : ev_H := (an476 : e2_Q8)
noncomputable def rs_a9 : e2_Rs := [((11, 0, 4294967295), q_a9_0)]
noncomputable def s_a9 : e2_Sm := (22, as_a9, E_a9, f_a9, rs_a9)
noncomputable def S_a9 : List e2_Sm := []
noncomputable def I_a9 : List e2_In := []
set_option maxRecDepth 1000000 in
theorem ck_a9 : e2_run (e2_cal S_a9 I_a9 4000 0) (e2_fin rs_a9) e2x_22 (fun _ => false) (fun _ _ _ _ _ => false) 4000 (e2_seek e2x_22 0) (e2_al 3 as_a9) [] E_a9 f_a9 = true := by decide +kernel
set_option maxRecDepth 1000000 in
theorem co_a9 : e2_okSB E_a9.length as_a9 f_a9 rs_a9 = true := by decide +kernel
theorem cs_a9 (hen : en_ok) (l : Launch) : e2_smOk l 1 s_a9 := e2_con0 (H := 0) (n := 0) (C := evd_22) (S := S_a9) (I := I_a9) (fuel := 4000) [] hen ei_22 e2_fz e2_fz (by decide) co_a9 ex2_22 ck_a9
/-! a10 X0_valueBy -/
def as_a10 : List ev_V := [(2, 11, 0), (2, 49, 0)]
def E_a10 : e2_E := [(2147483648, 2147583648, 0, 0), (2147483652, 2147483668, 1, 0)]
def ac160 : ev_C := (54, [(0, 300, 0), (11, 0, 4294967295)])
def an477 : e2_Q1 := (ac160, ac3)
def an478 : e2_Q2 := (an477, an47)
def an479 : e2_Q3 := (an478, an51)
def an480 : e2_Q4 := (an479, an59)
def an481 : e2_Q5 := (an45, an480)
def an482 : e2_Q6 := (an30, an481)
def an483 : e2_Q7 := (an482, an455)
def ac161 : ev_C := (54, [(0, 6, 0), (11, 0, 4294967295)])
def an484 : e2_Q1 := (ac161, ac3)
def an485 : e2_Q2 := (an484, an138)
def an486 : e2_Q3 := (an136, an485)
def an487 : e2_Q4 := (an133, an486)
def an488 : e2_Q5 := (an487, an156)
def ac162 : ev_C := (54, [(0, 31, 0), (11, 0, 4294967295)])
def an489 : e2_Q1 := (ac162, ac3)
def an490 : e2_Q2 := (an489, an174)
def an491 : e2_Q3 := (an490, an178)
def an492 : e2_Q4 := (an491, an186)
def an493 : e2_Q5 := (an172, an492)
def an494 : e2_Q6 := (an488, an493)
def ac163 : ev_C := (0, [(2, 12, 0), (2, 13, 0), (11, 0, 4294967295), (11, 2147483648, 2147483948)])
def an495 : e2_Q1 := (ac163, ac3)
def an496 : e2_Q2 := (an495, an206)
def an497 : e2_Q3 := (an496, an210)
def an498 : e2_Q4 := (an497, an218)
def an499 : e2_Q5 := (an273, an498)
def an500 : e2_Q6 := (an499, an251)
def an501 : e2_Q7 := (an494, an500)
def an502 : e2_Q8 := (an483, an501)
noncomputable def f_a10 : ev_H := (an502 : e2_Q8)
noncomputable def q_a10_0 : ev_H := (an502 : e2_Q8)
noncomputable def rs_a10 : e2_Rs := [((11, 0, 4294967295), q_a10_0)]
noncomputable def s_a10 : e2_Sm := (21, as_a10, E_a10, f_a10, rs_a10)
noncomputable def S_a10 : List e2_Sm := [s_a9]
noncomputable def I_a10 : List e2_In := []
set_option maxRecDepth 1000000 in
theorem co_a10 : e2_okSB E_a10.length as_a10 f_a10 rs_a10 = true := by decide +kernel
def al_a10_0 : List ev_V := [(2, 11, 0), (2, 49, 0), (11, 2147483648, 2147483679), (1, 2, 4294967296), (9, 0, 0), (9, 0, 0)]
def E_a10_0 : e2_E := [(2147483648, 2147583648, 0, 0), (2147483652, 2147483668, 1, 0), (2147483648, 2147483948, 2, 0)]
noncomputable def h_a10_0 : ev_H := (an502 : e2_Q8)
noncomputable def cl_a10_e : List (Nat × e2_S) := [(16, e2_cutL (al_a10_0.set 3 (11, 2147483648, 2147483948)) 2 (E_a10_0.take 2) h_a10_0)]
set_option maxRecDepth 1000000 in
theorem ck_a10_e : e2_run (e2_cal S_a10 I_a10 4000 0) (e2_fin rs_a10) e2x_21 (e2_bpL cl_a10_e) (e2_cutA cl_a10_e) 4000 (e2_seek e2x_21 0) (e2_al 6 as_a10) [] E_a10 f_a10 = true := by decide +kernel
noncomputable def cl_a10_0 : List (Nat × e2_S) := [(16, e2_cutL (al_a10_0.set 3 (13, 10, 2147483948)) 2 (E_a10_0.take 2) h_a10_0)]
set_option maxRecDepth 1000000 in
theorem ck_a10_0 : e2_runM (e2_cal S_a10 I_a10 4000 0) (e2_fin rs_a10) e2x_21 (e2_bpL cl_a10_0) (e2_cutA cl_a10_0) 4000 (e2_seek e2x_21 16) al_a10_0 [] E_a10_0 h_a10_0 = true := by decide +kernel
set_option maxRecDepth 1000000 in
theorem ci_a10_0 : e2_idl 2 (al_a10_0.set 3 (9, 0, 0)) = true := by decide +kernel
set_option maxRecDepth 1000000 in
theorem cj_a10_0 : e2_idh 2 8 h_a10_0 = true := by decide +kernel
theorem cs_a10 (hen : en_ok) (l : Launch) : e2_smOk l 2 s_a10 := by
  refine e2_conG (H := 1) (n := 0) (C := evd_21) (S := S_a10) (I := I_a10) (fuel := 4000) hen ei_21 (e2_fa (cs_a9 hen l) e2_fz) e2_fz (by decide) co_a10 fun M d _ hC hcall p e R s m args below meth c Q D cA A ads r0 ha hl0 => ?_
  have L_0 : e2_gdM M p l e R s m args below meth c Q D cA A ads r0 16 al_a10_0 [] E_a10_0 h_a10_0 := by
    refine e2_indL (u := 2) (j := 3) (lo := 2147483648) (hi := 2147483948) (b := 2) (dd := 0) hl0 (by decide) rfl rfl (Or.inr ⟨rfl, rfl⟩) rfl ci_a10_0 cj_a10_0 ?_
    intro r_0 k_0 hk_0 hp_0 hs_0 hn_0
    have hl_0 : r_0.length ≤ 3 := hs_0.len rfl
    have ha_0 := ha.ext hp_0
    exact e2_fromM hen ha_0 hcall (e2_cutA_ok (e2_fa (fun al st E h hc => hn_0 al st E h hc) e2_fz)) (hC []) (X := e2x_21) ex2_21 16 ck_a10_0
  have EN_0 := e2_entL (u := 2) (j := 3) (lo := 2147483648) (hi := 2147483948) hl0 rfl rfl rfl ci_a10_0 cj_a10_0 L_0
  exact e2_from hen ha hcall (e2_cutA_ok (e2_fa (fun al st E h hc => EN_0 al st E h hc) e2_fz)) (hC []) (X := e2x_21) ex2_21 0 ck_a10_e
/-! a11 X0_valueBy -/
def as_a11 : List ev_V := [(2, 14, 0), (2, 39, 0)]
def E_a11 : e2_E := [(2147483648, 2147583648, 0, 0), (2147483652, 2147483668, 1, 0)]
def an503 : e2_Q2 := (an489, an8)
def an504 : e2_Q3 := (an503, an12)
def an505 : e2_Q4 := (an6, an504)
def an506 : e2_Q5 := (an505, an29)
def an507 : e2_Q6 := (an506, an61)
def ac164 : ev_C := (0, [(2, 15, 0), (2, 16, 0), (11, 0, 4294967295), (11, 2147483648, 2147483948)])
def an508 : e2_Q1 := (ac164, ac3)
def an509 : e2_Q2 := (an508, an110)
def an510 : e2_Q3 := (an509, an114)
def an511 : e2_Q4 := (an510, an122)
def an512 : e2_Q5 := (an108, an511)
def an513 : e2_Q6 := (an454, an512)
def an514 : e2_Q7 := (an507, an513)
def an515 : e2_Q2 := (an484, an225)
def an516 : e2_Q3 := (an223, an515)
def an517 : e2_Q4 := (an516, an234)
def an518 : e2_Q2 := (an477, an237)
def an519 : e2_Q3 := (an518, an241)
def an520 : e2_Q4 := (an519, an249)
def an521 : e2_Q5 := (an517, an520)
def an522 : e2_Q6 := (an274, an521)
def an523 : e2_Q7 := (an189, an522)
def an524 : e2_Q8 := (an514, an523)
noncomputable def f_a11 : ev_H := (an524 : e2_Q8)
noncomputable def q_a11_0 : ev_H := (an524 : e2_Q8)
noncomputable def rs_a11 : e2_Rs := [((11, 0, 4294967295), q_a11_0)]
noncomputable def s_a11 : e2_Sm := (21, as_a11, E_a11, f_a11, rs_a11)
noncomputable def S_a11 : List e2_Sm := [s_a9]
noncomputable def I_a11 : List e2_In := []
set_option maxRecDepth 1000000 in
theorem co_a11 : e2_okSB E_a11.length as_a11 f_a11 rs_a11 = true := by decide +kernel
def al_a11_0 : List ev_V := [(2, 14, 0), (2, 39, 0), (11, 2147483648, 2147483679), (1, 2, 4294967296), (9, 0, 0), (9, 0, 0)]
def E_a11_0 : e2_E := [(2147483648, 2147583648, 0, 0), (2147483652, 2147483668, 1, 0), (2147483648, 2147483948, 2, 0)]
noncomputable def h_a11_0 : ev_H := (an524 : e2_Q8)
noncomputable def cl_a11_e : List (Nat × e2_S) := [(16, e2_cutL (al_a11_0.set 3 (11, 2147483648, 2147483948)) 2 (E_a11_0.take 2) h_a11_0)]
set_option maxRecDepth 1000000 in
theorem ck_a11_e : e2_run (e2_cal S_a11 I_a11 4000 0) (e2_fin rs_a11) e2x_21 (e2_bpL cl_a11_e) (e2_cutA cl_a11_e) 4000 (e2_seek e2x_21 0) (e2_al 6 as_a11) [] E_a11 f_a11 = true := by decide +kernel
noncomputable def cl_a11_0 : List (Nat × e2_S) := [(16, e2_cutL (al_a11_0.set 3 (13, 10, 2147483948)) 2 (E_a11_0.take 2) h_a11_0)]
set_option maxRecDepth 1000000 in
theorem ck_a11_0 : e2_runM (e2_cal S_a11 I_a11 4000 0) (e2_fin rs_a11) e2x_21 (e2_bpL cl_a11_0) (e2_cutA cl_a11_0) 4000 (e2_seek e2x_21 16) al_a11_0 [] E_a11_0 h_a11_0 = true := by decide +kernel
set_option maxRecDepth 1000000 in
theorem ci_a11_0 : e2_idl 2 (al_a11_0.set 3 (9, 0, 0)) = true := by decide +kernel
set_option maxRecDepth 1000000 in
theorem cj_a11_0 : e2_idh 2 8 h_a11_0 = true := by decide +kernel
theorem cs_a11 (hen : en_ok) (l : Launch) : e2_smOk l 2 s_a11 := by
  refine e2_conG (H := 1) (n := 0) (C := evd_21) (S := S_a11) (I := I_a11) (fuel := 4000) hen ei_21 (e2_fa (cs_a9 hen l) e2_fz) e2_fz (by decide) co_a11 fun M d _ hC hcall p e R s m args below meth c Q D cA A ads r0 ha hl0 => ?_
  have L_0 : e2_gdM M p l e R s m args below meth c Q D cA A ads r0 16 al_a11_0 [] E_a11_0 h_a11_0 := by
    refine e2_indL (u := 2) (j := 3) (lo := 2147483648) (hi := 2147483948) (b := 2) (dd := 0) hl0 (by decide) rfl rfl (Or.inr ⟨rfl, rfl⟩) rfl ci_a11_0 cj_a11_0 ?_
    intro r_0 k_0 hk_0 hp_0 hs_0 hn_0
    have hl_0 : r_0.length ≤ 3 := hs_0.len rfl
    have ha_0 := ha.ext hp_0
    exact e2_fromM hen ha_0 hcall (e2_cutA_ok (e2_fa (fun al st E h hc => hn_0 al st E h hc) e2_fz)) (hC []) (X := e2x_21) ex2_21 16 ck_a11_0
  have EN_0 := e2_entL (u := 2) (j := 3) (lo := 2147483648) (hi := 2147483948) hl0 rfl rfl rfl ci_a11_0 cj_a11_0 L_0
  exact e2_from hen ha hcall (e2_cutA_ok (e2_fa (fun al st E h hc => EN_0 al st E h hc) e2_fz)) (hC []) (X := e2x_21) ex2_21 0 ck_a11_e
/-! a12 X0_valueBy -/
def as_a12 : List ev_V := [(2, 14, 0), (2, 43, 0)]
def E_a12 : e2_E := [(2147483648, 2147583648, 0, 0), (2147483652, 2147483668, 1, 0)]
def an525 : e2_Q2 := (an484, an209)
def an526 : e2_Q3 := (an207, an525)
def an527 : e2_Q4 := (an526, an218)
def an528 : e2_Q5 := (an273, an527)
def an529 : e2_Q5 := (an235, an520)
def an530 : e2_Q6 := (an528, an529)
def an531 : e2_Q7 := (an189, an530)
def an532 : e2_Q8 := (an514, an531)
noncomputable def f_a12 : ev_H := (an532 : e2_Q8)
noncomputable def q_a12_0 : ev_H := (an532 : e2_Q8)
noncomputable def rs_a12 : e2_Rs := [((11, 0, 4294967295), q_a12_0)]
noncomputable def s_a12 : e2_Sm := (21, as_a12, E_a12, f_a12, rs_a12)
noncomputable def S_a12 : List e2_Sm := [s_a9]
noncomputable def I_a12 : List e2_In := []
set_option maxRecDepth 1000000 in
theorem co_a12 : e2_okSB E_a12.length as_a12 f_a12 rs_a12 = true := by decide +kernel
def al_a12_0 : List ev_V := [(2, 14, 0), (2, 43, 0), (11, 2147483648, 2147483679), (1, 2, 4294967296), (9, 0, 0), (9, 0, 0)]
def E_a12_0 : e2_E := [(2147483648, 2147583648, 0, 0), (2147483652, 2147483668, 1, 0), (2147483648, 2147483948, 2, 0)]
noncomputable def h_a12_0 : ev_H := (an532 : e2_Q8)
noncomputable def cl_a12_e : List (Nat × e2_S) := [(16, e2_cutL (al_a12_0.set 3 (11, 2147483648, 2147483948)) 2 (E_a12_0.take 2) h_a12_0)]
set_option maxRecDepth 1000000 in
theorem ck_a12_e : e2_run (e2_cal S_a12 I_a12 4000 0) (e2_fin rs_a12) e2x_21 (e2_bpL cl_a12_e) (e2_cutA cl_a12_e) 4000 (e2_seek e2x_21 0) (e2_al 6 as_a12) [] E_a12 f_a12 = true := by decide +kernel
noncomputable def cl_a12_0 : List (Nat × e2_S) := [(16, e2_cutL (al_a12_0.set 3 (13, 10, 2147483948)) 2 (E_a12_0.take 2) h_a12_0)]
set_option maxRecDepth 1000000 in
theorem ck_a12_0 : e2_runM (e2_cal S_a12 I_a12 4000 0) (e2_fin rs_a12) e2x_21 (e2_bpL cl_a12_0) (e2_cutA cl_a12_0) 4000 (e2_seek e2x_21 16) al_a12_0 [] E_a12_0 h_a12_0 = true := by decide +kernel
set_option maxRecDepth 1000000 in
theorem ci_a12_0 : e2_idl 2 (al_a12_0.set 3 (9, 0, 0)) = true := by decide +kernel
set_option maxRecDepth 1000000 in
theorem cj_a12_0 : e2_idh 2 8 h_a12_0 = true := by decide +kernel
theorem cs_a12 (hen : en_ok) (l : Launch) : e2_smOk l 2 s_a12 := by
  refine e2_conG (H := 1) (n := 0) (C := evd_21) (S := S_a12) (I := I_a12) (fuel := 4000) hen ei_21 (e2_fa (cs_a9 hen l) e2_fz) e2_fz (by decide) co_a12 fun M d _ hC hcall p e R s m args below meth c Q D cA A ads r0 ha hl0 => ?_
  have L_0 : e2_gdM M p l e R s m args below meth c Q D cA A ads r0 16 al_a12_0 [] E_a12_0 h_a12_0 := by
    refine e2_indL (u := 2) (j := 3) (lo := 2147483648) (hi := 2147483948) (b := 2) (dd := 0) hl0 (by decide) rfl rfl (Or.inr ⟨rfl, rfl⟩) rfl ci_a12_0 cj_a12_0 ?_
    intro r_0 k_0 hk_0 hp_0 hs_0 hn_0
    have hl_0 : r_0.length ≤ 3 := hs_0.len rfl
    have ha_0 := ha.ext hp_0
    exact e2_fromM hen ha_0 hcall (e2_cutA_ok (e2_fa (fun al st E h hc => hn_0 al st E h hc) e2_fz)) (hC []) (X := e2x_21) ex2_21 16 ck_a12_0
  have EN_0 := e2_entL (u := 2) (j := 3) (lo := 2147483648) (hi := 2147483948) hl0 rfl rfl rfl ci_a12_0 cj_a12_0 L_0
  exact e2_from hen ha hcall (e2_cutA_ok (e2_fa (fun al st E h hc => EN_0 al st E h hc) e2_fz)) (hC []) (X := e2x_21) ex2_21 0 ck_a12_e
/-! a13 X0_valueBy -/
def as_a13 : List ev_V := [(2, 11, 0), (2, 67, 0)]
def E_a13 : e2_E := [(2147483648, 2147583648, 0, 0), (2147483652, 2147483668, 1, 0)]
def an533 : e2_Q6 := (an157, an493)
def an534 : e2_Q2 := (an190, an484)
def an535 : e2_Q3 := (an534, an271)
def an536 : e2_Q4 := (an535, an203)
def an537 : e2_Q5 := (an536, an498)
def an538 : e2_Q6 := (an537, an251)
def an539 : e2_Q7 := (an533, an538)
def an540 : e2_Q8 := (an483, an539)
noncomputable def f_a13 : ev_H := (an540 : e2_Q8)
noncomputable def q_a13_0 : ev_H := (an540 : e2_Q8)
noncomputable def rs_a13 : e2_Rs := [((11, 0, 4294967295), q_a13_0)]
noncomputable def s_a13 : e2_Sm := (21, as_a13, E_a13, f_a13, rs_a13)
noncomputable def S_a13 : List e2_Sm := [s_a9]
noncomputable def I_a13 : List e2_In := []
set_option maxRecDepth 1000000 in
theorem co_a13 : e2_okSB E_a13.length as_a13 f_a13 rs_a13 = true := by decide +kernel
def al_a13_0 : List ev_V := [(2, 11, 0), (2, 67, 0), (11, 2147483648, 2147483679), (1, 2, 4294967296), (9, 0, 0), (9, 0, 0)]
def E_a13_0 : e2_E := [(2147483648, 2147583648, 0, 0), (2147483652, 2147483668, 1, 0), (2147483648, 2147483948, 2, 0)]
noncomputable def h_a13_0 : ev_H := (an540 : e2_Q8)
noncomputable def cl_a13_e : List (Nat × e2_S) := [(16, e2_cutL (al_a13_0.set 3 (11, 2147483648, 2147483948)) 2 (E_a13_0.take 2) h_a13_0)]
set_option maxRecDepth 1000000 in
theorem ck_a13_e : e2_run (e2_cal S_a13 I_a13 4000 0) (e2_fin rs_a13) e2x_21 (e2_bpL cl_a13_e) (e2_cutA cl_a13_e) 4000 (e2_seek e2x_21 0) (e2_al 6 as_a13) [] E_a13 f_a13 = true := by decide +kernel
noncomputable def cl_a13_0 : List (Nat × e2_S) := [(16, e2_cutL (al_a13_0.set 3 (13, 10, 2147483948)) 2 (E_a13_0.take 2) h_a13_0)]
set_option maxRecDepth 1000000 in
theorem ck_a13_0 : e2_runM (e2_cal S_a13 I_a13 4000 0) (e2_fin rs_a13) e2x_21 (e2_bpL cl_a13_0) (e2_cutA cl_a13_0) 4000 (e2_seek e2x_21 16) al_a13_0 [] E_a13_0 h_a13_0 = true := by decide +kernel
set_option maxRecDepth 1000000 in
theorem ci_a13_0 : e2_idl 2 (al_a13_0.set 3 (9, 0, 0)) = true := by decide +kernel
set_option maxRecDepth 1000000 in
theorem cj_a13_0 : e2_idh 2 8 h_a13_0 = true := by decide +kernel
theorem cs_a13 (hen : en_ok) (l : Launch) : e2_smOk l 2 s_a13 := by
  refine e2_conG (H := 1) (n := 0) (C := evd_21) (S := S_a13) (I := I_a13) (fuel := 4000) hen ei_21 (e2_fa (cs_a9 hen l) e2_fz) e2_fz (by decide) co_a13 fun M d _ hC hcall p e R s m args below meth c Q D cA A ads r0 ha hl0 => ?_
  have L_0 : e2_gdM M p l e R s m args below meth c Q D cA A ads r0 16 al_a13_0 [] E_a13_0 h_a13_0 := by
    refine e2_indL (u := 2) (j := 3) (lo := 2147483648) (hi := 2147483948) (b := 2) (dd := 0) hl0 (by decide) rfl rfl (Or.inr ⟨rfl, rfl⟩) rfl ci_a13_0 cj_a13_0 ?_
    intro r_0 k_0 hk_0 hp_0 hs_0 hn_0
    have hl_0 : r_0.length ≤ 3 := hs_0.len rfl
    have ha_0 := ha.ext hp_0
    exact e2_fromM hen ha_0 hcall (e2_cutA_ok (e2_fa (fun al st E h hc => hn_0 al st E h hc) e2_fz)) (hC []) (X := e2x_21) ex2_21 16 ck_a13_0
  have EN_0 := e2_entL (u := 2) (j := 3) (lo := 2147483648) (hi := 2147483948) hl0 rfl rfl rfl ci_a13_0 cj_a13_0 L_0
  exact e2_from hen ha hcall (e2_cutA_ok (e2_fa (fun al st E h hc => EN_0 al st E h hc) e2_fz)) (hC []) (X := e2x_21) ex2_21 0 ck_a13_e
/-! a14 X1_hear -/
def as_a14 : List ev_V := [(2, 77, 0), (11, 0, 4294967295), (11, 0, 4294967295), (11, 0, 4294967295), (11, 2147483648, 2147483649)]
def E_a14 : e2_E := [(2147483648, 2147583648, 0, 0), (2147483652, 2147483668, 1, 0)]
def ac165 : ev_C := (54, [(0, 30, 0), (11, 0, 4294967295)])
def an541 : e2_Q1 := (ac165, ac3)
def an542 : e2_Q2 := (an7, an541)
def an543 : e2_Q3 := (an542, an12)
def an544 : e2_Q4 := (an6, an543)
def an545 : e2_Q5 := (an544, an29)
def an546 : e2_Q6 := (an545, an61)
def an547 : e2_Q2 := (an109, an541)
def an548 : e2_Q3 := (an547, an114)
def an549 : e2_Q4 := (an548, an122)
def an550 : e2_Q5 := (an108, an549)
def an551 : e2_Q6 := (an454, an550)
def an552 : e2_Q7 := (an546, an551)
def an553 : e2_Q2 := (an134, an541)
def an554 : e2_Q3 := (an553, an139)
def an555 : e2_Q4 := (an133, an554)
def an556 : e2_Q5 := (an555, an156)
def ac166 : ev_C := (1, [(2, 82, 0), (11, 2147483648, 2147483652), (11, 2147483648, 2147483678), (1, 0, 4294967296), (2, 78, 0), (2, 79, 0), (2, 80, 0), (2, 81, 0)])
def an557 : e2_Q1 := (ac166, ac3)
def an558 : e2_Q2 := (an173, an557)
def an559 : e2_Q3 := (an558, an178)
def an560 : e2_Q4 := (an559, an186)
def an561 : e2_Q5 := (an172, an560)
def an562 : e2_Q6 := (an556, an561)
def ac167 : ev_C := (56, [(0, 30, 0), (11, 2147483648, 2147483649)])
def an563 : e2_Q1 := (ac167, ac3)
def an564 : e2_Q2 := (an236, an563)
def an565 : e2_Q3 := (an564, an241)
def an566 : e2_Q4 := (an565, an249)
def an567 : e2_Q5 := (an235, an566)
def an568 : e2_Q6 := (an274, an567)
def an569 : e2_Q7 := (an562, an568)
def an570 : e2_Q8 := (an552, an569)
noncomputable def f_a14 : ev_H := (an570 : e2_Q8)
noncomputable def q_a14_0 : ev_H := (an570 : e2_Q8)
noncomputable def rs_a14 : e2_Rs := [((11, 2147483647, 2147483677), q_a14_0)]
noncomputable def s_a14 : e2_Sm := (26, as_a14, E_a14, f_a14, rs_a14)
noncomputable def S_a14 : List e2_Sm := []
noncomputable def I_a14 : List e2_In := [(24, 2, e2x_24), (25, 3, e2x_25)]
set_option maxRecDepth 1000000 in
theorem ck_a14 : e2_run (e2_cal S_a14 I_a14 4000 1) (e2_fin rs_a14) e2x_26 (fun _ => false) (fun _ _ _ _ _ => false) 4000 (e2_seek e2x_26 0) (e2_al 5 as_a14) [] E_a14 f_a14 = true := by decide +kernel
set_option maxRecDepth 1000000 in
theorem co_a14 : e2_okSB E_a14.length as_a14 f_a14 rs_a14 = true := by decide +kernel
theorem cs_a14 (hen : en_ok) (l : Launch) : e2_smOk l 2 s_a14 := e2_con0 (H := 0) (n := 1) (C := evd_26) (S := S_a14) (I := I_a14) (fuel := 4000) [] hen ei_26 e2_fz (e2_fa ein_24 (e2_fa ein_25 e2_fz)) (by decide) co_a14 ex2_26 ck_a14
/-! a15 X1_choicesFrom -/
def as_a15 : List ev_V := [(2, 77, 0), (0, 16, 0), (11, 0, 4294967295)]
def E_a15 : e2_E := [(2147483648, 2147583648, 0, 0), (2147483652, 2147483668, 1, 0)]
noncomputable def f_a15 : ev_H := (an476 : e2_Q8)
noncomputable def q_a15_0 : ev_H := (an476 : e2_Q8)
noncomputable def rs_a15 : e2_Rs := [((0, 1, 0), q_a15_0)]
noncomputable def s_a15 : e2_Sm := (32, as_a15, E_a15, f_a15, rs_a15)
noncomputable def S_a15 : List e2_Sm := []
noncomputable def I_a15 : List e2_In := []
set_option maxRecDepth 1000000 in
theorem ck_a15 : e2_run (e2_cal S_a15 I_a15 4000 0) (e2_fin rs_a15) e2x_32 (fun _ => false) (fun _ _ _ _ _ => false) 4000 (e2_seek e2x_32 0) (e2_al 6 as_a15) [] E_a15 f_a15 = true := by decide +kernel
set_option maxRecDepth 1000000 in
theorem co_a15 : e2_okSB E_a15.length as_a15 f_a15 rs_a15 = true := by decide +kernel
theorem cs_a15 (hen : en_ok) (l : Launch) : e2_smOk l 1 s_a15 := e2_con0 (H := 0) (n := 0) (C := evd_32) (S := S_a15) (I := I_a15) (fuel := 4000) [] hen ei_32 e2_fz e2_fz (by decide) co_a15 ex2_32 ck_a15
/-! a16 X1_choicesFrom -/
def as_a16 : List ev_V := [(2, 77, 0), (0, 15, 0), (11, 0, 4294967295)]
def E_a16 : e2_E := [(2147483648, 2147583648, 0, 0), (2147483652, 2147483668, 1, 0)]
def ac168 : ev_C := (54, [(0, 16, 0), (11, 0, 4294967295)])
def an571 : e2_Q1 := (ac168, ac3)
def an572 : e2_Q2 := (an70, an571)
def an573 : e2_Q3 := (an572, an75)
def an574 : e2_Q4 := (an298, an573)
def an575 : e2_Q5 := (an574, an92)
def an576 : e2_Q6 := (an575, an124)
def an577 : e2_Q7 := (an62, an576)
def an578 : e2_Q6 := (an157, an561)
def an579 : e2_Q7 := (an578, an275)
def an580 : e2_Q8 := (an577, an579)
noncomputable def f_a16 : ev_H := (an580 : e2_Q8)
noncomputable def q_a16_0 : ev_H := (an580 : e2_Q8)
noncomputable def rs_a16 : e2_Rs := [((11, 2147483649, 2147483650), q_a16_0)]
noncomputable def s_a16 : e2_Sm := (32, as_a16, E_a16, f_a16, rs_a16)
noncomputable def S_a16 : List e2_Sm := [s_a15]
noncomputable def I_a16 : List e2_In := []
set_option maxRecDepth 1000000 in
theorem ck_a16 : e2_run (e2_cal S_a16 I_a16 4000 0) (e2_fin rs_a16) e2x_32 (fun _ => false) (fun _ _ _ _ _ => false) 4000 (e2_seek e2x_32 0) (e2_al 6 as_a16) [] E_a16 f_a16 = true := by decide +kernel
set_option maxRecDepth 1000000 in
theorem co_a16 : e2_okSB E_a16.length as_a16 f_a16 rs_a16 = true := by decide +kernel
theorem cs_a16 (hen : en_ok) (l : Launch) : e2_smOk l 2 s_a16 := e2_con0 (H := 1) (n := 0) (C := evd_32) (S := S_a16) (I := I_a16) (fuel := 4000) [] hen ei_32 (e2_fa (cs_a15 hen l) e2_fz) e2_fz (by decide) co_a16 ex2_32 ck_a16
/-! a17 X1_choicesFrom -/
def as_a17 : List ev_V := [(2, 77, 0), (0, 14, 0), (11, 0, 4294967295)]
def E_a17 : e2_E := [(2147483648, 2147583648, 0, 0), (2147483652, 2147483668, 1, 0)]
noncomputable def f_a17 : ev_H := (an580 : e2_Q8)
noncomputable def q_a17_0 : ev_H := (an580 : e2_Q8)
noncomputable def rs_a17 : e2_Rs := [((11, 2147483649, 2147483652), q_a17_0)]
noncomputable def s_a17 : e2_Sm := (32, as_a17, E_a17, f_a17, rs_a17)
noncomputable def S_a17 : List e2_Sm := [s_a16]
noncomputable def I_a17 : List e2_In := []
set_option maxRecDepth 1000000 in
theorem ck_a17 : e2_run (e2_cal S_a17 I_a17 4000 0) (e2_fin rs_a17) e2x_32 (fun _ => false) (fun _ _ _ _ _ => false) 4000 (e2_seek e2x_32 0) (e2_al 6 as_a17) [] E_a17 f_a17 = true := by decide +kernel
set_option maxRecDepth 1000000 in
theorem co_a17 : e2_okSB E_a17.length as_a17 f_a17 rs_a17 = true := by decide +kernel
theorem cs_a17 (hen : en_ok) (l : Launch) : e2_smOk l 3 s_a17 := e2_con0 (H := 2) (n := 0) (C := evd_32) (S := S_a17) (I := I_a17) (fuel := 4000) [] hen ei_32 (e2_fa (cs_a16 hen l) e2_fz) e2_fz (by decide) co_a17 ex2_32 ck_a17
/-! a18 X1_choicesFrom -/
def as_a18 : List ev_V := [(2, 77, 0), (0, 13, 0), (11, 0, 4294967295)]
def E_a18 : e2_E := [(2147483648, 2147583648, 0, 0), (2147483652, 2147483668, 1, 0)]
noncomputable def f_a18 : ev_H := (an580 : e2_Q8)
noncomputable def q_a18_0 : ev_H := (an580 : e2_Q8)
noncomputable def rs_a18 : e2_Rs := [((11, 2147483649, 2147483656), q_a18_0)]
noncomputable def s_a18 : e2_Sm := (32, as_a18, E_a18, f_a18, rs_a18)
noncomputable def S_a18 : List e2_Sm := [s_a17]
noncomputable def I_a18 : List e2_In := []
set_option maxRecDepth 1000000 in
theorem ck_a18 : e2_run (e2_cal S_a18 I_a18 4000 0) (e2_fin rs_a18) e2x_32 (fun _ => false) (fun _ _ _ _ _ => false) 4000 (e2_seek e2x_32 0) (e2_al 6 as_a18) [] E_a18 f_a18 = true := by decide +kernel
set_option maxRecDepth 1000000 in
theorem co_a18 : e2_okSB E_a18.length as_a18 f_a18 rs_a18 = true := by decide +kernel
theorem cs_a18 (hen : en_ok) (l : Launch) : e2_smOk l 4 s_a18 := e2_con0 (H := 3) (n := 0) (C := evd_32) (S := S_a18) (I := I_a18) (fuel := 4000) [] hen ei_32 (e2_fa (cs_a17 hen l) e2_fz) e2_fz (by decide) co_a18 ex2_32 ck_a18
/-! a19 X1_choicesFrom -/
def as_a19 : List ev_V := [(2, 77, 0), (0, 12, 0), (11, 0, 4294967295)]
def E_a19 : e2_E := [(2147483648, 2147583648, 0, 0), (2147483652, 2147483668, 1, 0)]
noncomputable def f_a19 : ev_H := (an580 : e2_Q8)
noncomputable def q_a19_0 : ev_H := (an580 : e2_Q8)
noncomputable def rs_a19 : e2_Rs := [((11, 2147483649, 2147483664), q_a19_0)]
noncomputable def s_a19 : e2_Sm := (32, as_a19, E_a19, f_a19, rs_a19)
noncomputable def S_a19 : List e2_Sm := [s_a18]
noncomputable def I_a19 : List e2_In := []
set_option maxRecDepth 1000000 in
theorem ck_a19 : e2_run (e2_cal S_a19 I_a19 4000 0) (e2_fin rs_a19) e2x_32 (fun _ => false) (fun _ _ _ _ _ => false) 4000 (e2_seek e2x_32 0) (e2_al 6 as_a19) [] E_a19 f_a19 = true := by decide +kernel
set_option maxRecDepth 1000000 in
theorem co_a19 : e2_okSB E_a19.length as_a19 f_a19 rs_a19 = true := by decide +kernel
theorem cs_a19 (hen : en_ok) (l : Launch) : e2_smOk l 5 s_a19 := e2_con0 (H := 4) (n := 0) (C := evd_32) (S := S_a19) (I := I_a19) (fuel := 4000) [] hen ei_32 (e2_fa (cs_a18 hen l) e2_fz) e2_fz (by decide) co_a19 ex2_32 ck_a19
/-! a20 X1_choicesFrom -/
def as_a20 : List ev_V := [(2, 77, 0), (0, 11, 0), (11, 0, 4294967295)]
def E_a20 : e2_E := [(2147483648, 2147583648, 0, 0), (2147483652, 2147483668, 1, 0)]
noncomputable def f_a20 : ev_H := (an580 : e2_Q8)
noncomputable def q_a20_0 : ev_H := (an580 : e2_Q8)
noncomputable def rs_a20 : e2_Rs := [((11, 2147483649, 2147483680), q_a20_0)]
noncomputable def s_a20 : e2_Sm := (32, as_a20, E_a20, f_a20, rs_a20)
noncomputable def S_a20 : List e2_Sm := [s_a19]
noncomputable def I_a20 : List e2_In := []
set_option maxRecDepth 1000000 in
theorem ck_a20 : e2_run (e2_cal S_a20 I_a20 4000 0) (e2_fin rs_a20) e2x_32 (fun _ => false) (fun _ _ _ _ _ => false) 4000 (e2_seek e2x_32 0) (e2_al 6 as_a20) [] E_a20 f_a20 = true := by decide +kernel
set_option maxRecDepth 1000000 in
theorem co_a20 : e2_okSB E_a20.length as_a20 f_a20 rs_a20 = true := by decide +kernel
theorem cs_a20 (hen : en_ok) (l : Launch) : e2_smOk l 6 s_a20 := e2_con0 (H := 5) (n := 0) (C := evd_32) (S := S_a20) (I := I_a20) (fuel := 4000) [] hen ei_32 (e2_fa (cs_a19 hen l) e2_fz) e2_fz (by decide) co_a20 ex2_32 ck_a20
/-! a21 X1_choicesFrom -/
def as_a21 : List ev_V := [(2, 77, 0), (0, 10, 0), (11, 0, 4294967295)]
def E_a21 : e2_E := [(2147483648, 2147583648, 0, 0), (2147483652, 2147483668, 1, 0)]
noncomputable def f_a21 : ev_H := (an580 : e2_Q8)
noncomputable def q_a21_0 : ev_H := (an580 : e2_Q8)
noncomputable def rs_a21 : e2_Rs := [((11, 2147483649, 2147483712), q_a21_0)]
noncomputable def s_a21 : e2_Sm := (32, as_a21, E_a21, f_a21, rs_a21)
noncomputable def S_a21 : List e2_Sm := [s_a20]
noncomputable def I_a21 : List e2_In := []
set_option maxRecDepth 1000000 in
theorem ck_a21 : e2_run (e2_cal S_a21 I_a21 4000 0) (e2_fin rs_a21) e2x_32 (fun _ => false) (fun _ _ _ _ _ => false) 4000 (e2_seek e2x_32 0) (e2_al 6 as_a21) [] E_a21 f_a21 = true := by decide +kernel
set_option maxRecDepth 1000000 in
theorem co_a21 : e2_okSB E_a21.length as_a21 f_a21 rs_a21 = true := by decide +kernel
theorem cs_a21 (hen : en_ok) (l : Launch) : e2_smOk l 7 s_a21 := e2_con0 (H := 6) (n := 0) (C := evd_32) (S := S_a21) (I := I_a21) (fuel := 4000) [] hen ei_32 (e2_fa (cs_a20 hen l) e2_fz) e2_fz (by decide) co_a21 ex2_32 ck_a21
/-! a22 X1_choicesFrom -/
def as_a22 : List ev_V := [(2, 77, 0), (0, 9, 0), (11, 0, 4294967295)]
def E_a22 : e2_E := [(2147483648, 2147583648, 0, 0), (2147483652, 2147483668, 1, 0)]
noncomputable def f_a22 : ev_H := (an580 : e2_Q8)
noncomputable def q_a22_0 : ev_H := (an580 : e2_Q8)
noncomputable def rs_a22 : e2_Rs := [((11, 2147483649, 2147483776), q_a22_0)]
noncomputable def s_a22 : e2_Sm := (32, as_a22, E_a22, f_a22, rs_a22)
noncomputable def S_a22 : List e2_Sm := [s_a21]
noncomputable def I_a22 : List e2_In := []
set_option maxRecDepth 1000000 in
theorem ck_a22 : e2_run (e2_cal S_a22 I_a22 4000 0) (e2_fin rs_a22) e2x_32 (fun _ => false) (fun _ _ _ _ _ => false) 4000 (e2_seek e2x_32 0) (e2_al 6 as_a22) [] E_a22 f_a22 = true := by decide +kernel
set_option maxRecDepth 1000000 in
theorem co_a22 : e2_okSB E_a22.length as_a22 f_a22 rs_a22 = true := by decide +kernel
theorem cs_a22 (hen : en_ok) (l : Launch) : e2_smOk l 8 s_a22 := e2_con0 (H := 7) (n := 0) (C := evd_32) (S := S_a22) (I := I_a22) (fuel := 4000) [] hen ei_32 (e2_fa (cs_a21 hen l) e2_fz) e2_fz (by decide) co_a22 ex2_32 ck_a22
/-! a23 X1_choicesFrom -/
def as_a23 : List ev_V := [(2, 77, 0), (0, 8, 0), (11, 0, 4294967295)]
def E_a23 : e2_E := [(2147483648, 2147583648, 0, 0), (2147483652, 2147483668, 1, 0)]
noncomputable def f_a23 : ev_H := (an580 : e2_Q8)
noncomputable def q_a23_0 : ev_H := (an580 : e2_Q8)
noncomputable def rs_a23 : e2_Rs := [((11, 2147483649, 2147483904), q_a23_0)]
noncomputable def s_a23 : e2_Sm := (32, as_a23, E_a23, f_a23, rs_a23)
noncomputable def S_a23 : List e2_Sm := [s_a22]
noncomputable def I_a23 : List e2_In := []
set_option maxRecDepth 1000000 in
theorem ck_a23 : e2_run (e2_cal S_a23 I_a23 4000 0) (e2_fin rs_a23) e2x_32 (fun _ => false) (fun _ _ _ _ _ => false) 4000 (e2_seek e2x_32 0) (e2_al 6 as_a23) [] E_a23 f_a23 = true := by decide +kernel
set_option maxRecDepth 1000000 in
theorem co_a23 : e2_okSB E_a23.length as_a23 f_a23 rs_a23 = true := by decide +kernel
theorem cs_a23 (hen : en_ok) (l : Launch) : e2_smOk l 9 s_a23 := e2_con0 (H := 8) (n := 0) (C := evd_32) (S := S_a23) (I := I_a23) (fuel := 4000) [] hen ei_32 (e2_fa (cs_a22 hen l) e2_fz) e2_fz (by decide) co_a23 ex2_32 ck_a23
/-! a24 X1_choicesFrom -/
def as_a24 : List ev_V := [(2, 77, 0), (0, 7, 0), (11, 0, 4294967295)]
def E_a24 : e2_E := [(2147483648, 2147583648, 0, 0), (2147483652, 2147483668, 1, 0)]
noncomputable def f_a24 : ev_H := (an580 : e2_Q8)
noncomputable def q_a24_0 : ev_H := (an580 : e2_Q8)
noncomputable def rs_a24 : e2_Rs := [((11, 2147483649, 2147484160), q_a24_0)]
noncomputable def s_a24 : e2_Sm := (32, as_a24, E_a24, f_a24, rs_a24)
noncomputable def S_a24 : List e2_Sm := [s_a23]
noncomputable def I_a24 : List e2_In := []
set_option maxRecDepth 1000000 in
theorem ck_a24 : e2_run (e2_cal S_a24 I_a24 4000 0) (e2_fin rs_a24) e2x_32 (fun _ => false) (fun _ _ _ _ _ => false) 4000 (e2_seek e2x_32 0) (e2_al 6 as_a24) [] E_a24 f_a24 = true := by decide +kernel
set_option maxRecDepth 1000000 in
theorem co_a24 : e2_okSB E_a24.length as_a24 f_a24 rs_a24 = true := by decide +kernel
theorem cs_a24 (hen : en_ok) (l : Launch) : e2_smOk l 10 s_a24 := e2_con0 (H := 9) (n := 0) (C := evd_32) (S := S_a24) (I := I_a24) (fuel := 4000) [] hen ei_32 (e2_fa (cs_a23 hen l) e2_fz) e2_fz (by decide) co_a24 ex2_32 ck_a24
/-! a25 X1_choicesFrom -/
def as_a25 : List ev_V := [(2, 77, 0), (0, 6, 0), (11, 0, 4294967295)]
def E_a25 : e2_E := [(2147483648, 2147583648, 0, 0), (2147483652, 2147483668, 1, 0)]
noncomputable def f_a25 : ev_H := (an580 : e2_Q8)
noncomputable def q_a25_0 : ev_H := (an580 : e2_Q8)
noncomputable def rs_a25 : e2_Rs := [((11, 2147483649, 2147484672), q_a25_0)]
noncomputable def s_a25 : e2_Sm := (32, as_a25, E_a25, f_a25, rs_a25)
noncomputable def S_a25 : List e2_Sm := [s_a24]
noncomputable def I_a25 : List e2_In := []
set_option maxRecDepth 1000000 in
theorem ck_a25 : e2_run (e2_cal S_a25 I_a25 4000 0) (e2_fin rs_a25) e2x_32 (fun _ => false) (fun _ _ _ _ _ => false) 4000 (e2_seek e2x_32 0) (e2_al 6 as_a25) [] E_a25 f_a25 = true := by decide +kernel
set_option maxRecDepth 1000000 in
theorem co_a25 : e2_okSB E_a25.length as_a25 f_a25 rs_a25 = true := by decide +kernel
theorem cs_a25 (hen : en_ok) (l : Launch) : e2_smOk l 11 s_a25 := e2_con0 (H := 10) (n := 0) (C := evd_32) (S := S_a25) (I := I_a25) (fuel := 4000) [] hen ei_32 (e2_fa (cs_a24 hen l) e2_fz) e2_fz (by decide) co_a25 ex2_32 ck_a25
/-! a26 X1_choicesFrom -/
def as_a26 : List ev_V := [(2, 77, 0), (0, 5, 0), (11, 0, 4294967295)]
def E_a26 : e2_E := [(2147483648, 2147583648, 0, 0), (2147483652, 2147483668, 1, 0)]
noncomputable def f_a26 : ev_H := (an580 : e2_Q8)
noncomputable def q_a26_0 : ev_H := (an580 : e2_Q8)
noncomputable def rs_a26 : e2_Rs := [((11, 2147483649, 2147485696), q_a26_0)]
noncomputable def s_a26 : e2_Sm := (32, as_a26, E_a26, f_a26, rs_a26)
noncomputable def S_a26 : List e2_Sm := [s_a25]
noncomputable def I_a26 : List e2_In := []
set_option maxRecDepth 1000000 in
theorem ck_a26 : e2_run (e2_cal S_a26 I_a26 4000 0) (e2_fin rs_a26) e2x_32 (fun _ => false) (fun _ _ _ _ _ => false) 4000 (e2_seek e2x_32 0) (e2_al 6 as_a26) [] E_a26 f_a26 = true := by decide +kernel
set_option maxRecDepth 1000000 in
theorem co_a26 : e2_okSB E_a26.length as_a26 f_a26 rs_a26 = true := by decide +kernel
theorem cs_a26 (hen : en_ok) (l : Launch) : e2_smOk l 12 s_a26 := e2_con0 (H := 11) (n := 0) (C := evd_32) (S := S_a26) (I := I_a26) (fuel := 4000) [] hen ei_32 (e2_fa (cs_a25 hen l) e2_fz) e2_fz (by decide) co_a26 ex2_32 ck_a26
/-! a27 X1_choicesFrom -/
def as_a27 : List ev_V := [(2, 77, 0), (0, 4, 0), (11, 0, 4294967295)]
def E_a27 : e2_E := [(2147483648, 2147583648, 0, 0), (2147483652, 2147483668, 1, 0)]
noncomputable def f_a27 : ev_H := (an580 : e2_Q8)
noncomputable def q_a27_0 : ev_H := (an580 : e2_Q8)
noncomputable def rs_a27 : e2_Rs := [((11, 2147483649, 2147487744), q_a27_0)]
noncomputable def s_a27 : e2_Sm := (32, as_a27, E_a27, f_a27, rs_a27)
noncomputable def S_a27 : List e2_Sm := [s_a26]
noncomputable def I_a27 : List e2_In := []
set_option maxRecDepth 1000000 in
theorem ck_a27 : e2_run (e2_cal S_a27 I_a27 4000 0) (e2_fin rs_a27) e2x_32 (fun _ => false) (fun _ _ _ _ _ => false) 4000 (e2_seek e2x_32 0) (e2_al 6 as_a27) [] E_a27 f_a27 = true := by decide +kernel
set_option maxRecDepth 1000000 in
theorem co_a27 : e2_okSB E_a27.length as_a27 f_a27 rs_a27 = true := by decide +kernel
theorem cs_a27 (hen : en_ok) (l : Launch) : e2_smOk l 13 s_a27 := e2_con0 (H := 12) (n := 0) (C := evd_32) (S := S_a27) (I := I_a27) (fuel := 4000) [] hen ei_32 (e2_fa (cs_a26 hen l) e2_fz) e2_fz (by decide) co_a27 ex2_32 ck_a27
/-! a28 X1_choicesFrom -/
def as_a28 : List ev_V := [(2, 77, 0), (0, 3, 0), (11, 0, 4294967295)]
def E_a28 : e2_E := [(2147483648, 2147583648, 0, 0), (2147483652, 2147483668, 1, 0)]
noncomputable def f_a28 : ev_H := (an580 : e2_Q8)
noncomputable def q_a28_0 : ev_H := (an580 : e2_Q8)
noncomputable def rs_a28 : e2_Rs := [((11, 2147483649, 2147491840), q_a28_0)]
noncomputable def s_a28 : e2_Sm := (32, as_a28, E_a28, f_a28, rs_a28)
noncomputable def S_a28 : List e2_Sm := [s_a27]
noncomputable def I_a28 : List e2_In := []
set_option maxRecDepth 1000000 in
theorem ck_a28 : e2_run (e2_cal S_a28 I_a28 4000 0) (e2_fin rs_a28) e2x_32 (fun _ => false) (fun _ _ _ _ _ => false) 4000 (e2_seek e2x_32 0) (e2_al 6 as_a28) [] E_a28 f_a28 = true := by decide +kernel
set_option maxRecDepth 1000000 in
theorem co_a28 : e2_okSB E_a28.length as_a28 f_a28 rs_a28 = true := by decide +kernel
theorem cs_a28 (hen : en_ok) (l : Launch) : e2_smOk l 14 s_a28 := e2_con0 (H := 13) (n := 0) (C := evd_32) (S := S_a28) (I := I_a28) (fuel := 4000) [] hen ei_32 (e2_fa (cs_a27 hen l) e2_fz) e2_fz (by decide) co_a28 ex2_32 ck_a28
/-! a29 X1_choicesFrom -/
def as_a29 : List ev_V := [(2, 77, 0), (0, 2, 0), (11, 0, 4294967295)]
def E_a29 : e2_E := [(2147483648, 2147583648, 0, 0), (2147483652, 2147483668, 1, 0)]
noncomputable def f_a29 : ev_H := (an580 : e2_Q8)
noncomputable def q_a29_0 : ev_H := (an580 : e2_Q8)
noncomputable def rs_a29 : e2_Rs := [((11, 2147483649, 2147500032), q_a29_0)]
noncomputable def s_a29 : e2_Sm := (32, as_a29, E_a29, f_a29, rs_a29)
noncomputable def S_a29 : List e2_Sm := [s_a28]
noncomputable def I_a29 : List e2_In := []
set_option maxRecDepth 1000000 in
theorem ck_a29 : e2_run (e2_cal S_a29 I_a29 4000 0) (e2_fin rs_a29) e2x_32 (fun _ => false) (fun _ _ _ _ _ => false) 4000 (e2_seek e2x_32 0) (e2_al 6 as_a29) [] E_a29 f_a29 = true := by decide +kernel
set_option maxRecDepth 1000000 in
theorem co_a29 : e2_okSB E_a29.length as_a29 f_a29 rs_a29 = true := by decide +kernel
theorem cs_a29 (hen : en_ok) (l : Launch) : e2_smOk l 15 s_a29 := e2_con0 (H := 14) (n := 0) (C := evd_32) (S := S_a29) (I := I_a29) (fuel := 4000) [] hen ei_32 (e2_fa (cs_a28 hen l) e2_fz) e2_fz (by decide) co_a29 ex2_32 ck_a29
/-! a30 X1_choicesFrom -/
def as_a30 : List ev_V := [(2, 77, 0), (0, 1, 0), (11, 0, 4294967295)]
def E_a30 : e2_E := [(2147483648, 2147583648, 0, 0), (2147483652, 2147483668, 1, 0)]
noncomputable def f_a30 : ev_H := (an580 : e2_Q8)
noncomputable def q_a30_0 : ev_H := (an580 : e2_Q8)
noncomputable def rs_a30 : e2_Rs := [((11, 2147483649, 2147516416), q_a30_0)]
noncomputable def s_a30 : e2_Sm := (32, as_a30, E_a30, f_a30, rs_a30)
noncomputable def S_a30 : List e2_Sm := [s_a29]
noncomputable def I_a30 : List e2_In := []
set_option maxRecDepth 1000000 in
theorem ck_a30 : e2_run (e2_cal S_a30 I_a30 4000 0) (e2_fin rs_a30) e2x_32 (fun _ => false) (fun _ _ _ _ _ => false) 4000 (e2_seek e2x_32 0) (e2_al 6 as_a30) [] E_a30 f_a30 = true := by decide +kernel
set_option maxRecDepth 1000000 in
theorem co_a30 : e2_okSB E_a30.length as_a30 f_a30 rs_a30 = true := by decide +kernel
theorem cs_a30 (hen : en_ok) (l : Launch) : e2_smOk l 16 s_a30 := e2_con0 (H := 15) (n := 0) (C := evd_32) (S := S_a30) (I := I_a30) (fuel := 4000) [] hen ei_32 (e2_fa (cs_a29 hen l) e2_fz) e2_fz (by decide) co_a30 ex2_32 ck_a30
/-! a31 X1_choicesFrom -/
def as_a31 : List ev_V := [(2, 77, 0), (0, 0, 0), (11, 0, 4294967295)]
def E_a31 : e2_E := [(2147483648, 2147583648, 0, 0), (2147483652, 2147483668, 1, 0)]
noncomputable def f_a31 : ev_H := (an580 : e2_Q8)
noncomputable def q_a31_0 : ev_H := (an580 : e2_Q8)
noncomputable def rs_a31 : e2_Rs := [((11, 2147483649, 2147549184), q_a31_0)]
noncomputable def s_a31 : e2_Sm := (32, as_a31, E_a31, f_a31, rs_a31)
noncomputable def S_a31 : List e2_Sm := [s_a30]
noncomputable def I_a31 : List e2_In := []
set_option maxRecDepth 1000000 in
theorem ck_a31 : e2_run (e2_cal S_a31 I_a31 4000 0) (e2_fin rs_a31) e2x_32 (fun _ => false) (fun _ _ _ _ _ => false) 4000 (e2_seek e2x_32 0) (e2_al 6 as_a31) [] E_a31 f_a31 = true := by decide +kernel
set_option maxRecDepth 1000000 in
theorem co_a31 : e2_okSB E_a31.length as_a31 f_a31 rs_a31 = true := by decide +kernel
theorem cs_a31 (hen : en_ok) (l : Launch) : e2_smOk l 17 s_a31 := e2_con0 (H := 16) (n := 0) (C := evd_32) (S := S_a31) (I := I_a31) (fuel := 4000) [] hen ei_32 (e2_fa (cs_a30 hen l) e2_fz) e2_fz (by decide) co_a31 ex2_32 ck_a31
/-! a32 X1_setAgainst -/
def as_a32 : List ev_V := [(2, 77, 0), (11, 0, 4294967295)]
def E_a32 : e2_E := [(2147483648, 2147583648, 0, 0), (2147483652, 2147483668, 1, 0)]
noncomputable def f_a32 : ev_H := (an580 : e2_Q8)
noncomputable def q_a32_0 : ev_H := (an580 : e2_Q8)
noncomputable def rs_a32 : e2_Rs := [((9, 0, 0), q_a32_0)]
noncomputable def s_a32 : e2_Sm := (31, as_a32, E_a32, f_a32, rs_a32)
noncomputable def S_a32 : List e2_Sm := []
noncomputable def I_a32 : List e2_In := [(159, 2, e2x_159)]
set_option maxRecDepth 1000000 in
theorem co_a32 : e2_okSB E_a32.length as_a32 f_a32 rs_a32 = true := by decide +kernel
def al_a32_0 : List ev_V := [(2, 77, 0), (11, 0, 4294967295), (1, 2, 4294967296)]
def E_a32_0 : e2_E := [(2147483648, 2147583648, 0, 0), (2147483652, 2147483668, 1, 0), (2147483648, 2147483664, 2, 0)]
noncomputable def h_a32_0 : ev_H := (an580 : e2_Q8)
noncomputable def cl_a32_e : List (Nat × e2_S) := [(2, e2_cutL (al_a32_0.set 2 (11, 2147483648, 2147483664)) 2 (E_a32_0.take 2) h_a32_0)]
set_option maxRecDepth 1000000 in
theorem ck_a32_e : e2_run (e2_cal S_a32 I_a32 4000 1) (e2_fin rs_a32) e2x_31 (e2_bpL cl_a32_e) (e2_cutA cl_a32_e) 4000 (e2_seek e2x_31 0) (e2_al 3 as_a32) [] E_a32 f_a32 = true := by decide +kernel
noncomputable def cl_a32_0 : List (Nat × e2_S) := [(2, e2_cutL (al_a32_0.set 2 (13, 10, 2147483664)) 2 (E_a32_0.take 2) h_a32_0)]
set_option maxRecDepth 1000000 in
theorem ck_a32_0 : e2_runM (e2_cal S_a32 I_a32 4000 1) (e2_fin rs_a32) e2x_31 (e2_bpL cl_a32_0) (e2_cutA cl_a32_0) 4000 (e2_seek e2x_31 2) al_a32_0 [] E_a32_0 h_a32_0 = true := by decide +kernel
set_option maxRecDepth 1000000 in
theorem ci_a32_0 : e2_idl 2 (al_a32_0.set 2 (9, 0, 0)) = true := by decide +kernel
set_option maxRecDepth 1000000 in
theorem cj_a32_0 : e2_idh 2 8 h_a32_0 = true := by decide +kernel
theorem cs_a32 (hen : en_ok) (l : Launch) : e2_smOk l 2 s_a32 := by
  refine e2_conG (H := 0) (n := 1) (C := evd_31) (S := S_a32) (I := I_a32) (fuel := 4000) hen ei_31 e2_fz (e2_fa ein_159 e2_fz) (by decide) co_a32 fun M d _ hC hcall p e R s m args below meth c Q D cA A ads r0 ha hl0 => ?_
  have L_0 : e2_gdM M p l e R s m args below meth c Q D cA A ads r0 2 al_a32_0 [] E_a32_0 h_a32_0 := by
    refine e2_indL (u := 2) (j := 2) (lo := 2147483648) (hi := 2147483664) (b := 2) (dd := 0) hl0 (by decide) rfl rfl (Or.inr ⟨rfl, rfl⟩) rfl ci_a32_0 cj_a32_0 ?_
    intro r_0 k_0 hk_0 hp_0 hs_0 hn_0
    have hl_0 : r_0.length ≤ 3 := hs_0.len rfl
    have ha_0 := ha.ext hp_0
    exact e2_fromM hen ha_0 hcall (e2_cutA_ok (e2_fa (fun al st E h hc => hn_0 al st E h hc) e2_fz)) (hC []) (X := e2x_31) ex2_31 2 ck_a32_0
  have EN_0 := e2_entL (u := 2) (j := 2) (lo := 2147483648) (hi := 2147483664) hl0 rfl rfl rfl ci_a32_0 cj_a32_0 L_0
  exact e2_from hen ha hcall (e2_cutA_ok (e2_fa (fun al st E h hc => EN_0 al st E h hc) e2_fz)) (hC []) (X := e2x_31) ex2_31 0 ck_a32_e
/-! a33 X1_grammars -/
def as_a33 : List ev_V := [(2, 77, 0), (11, 0, 4294967295), (11, 0, 4294967295)]
def E_a33 : e2_E := [(2147483648, 2147583648, 0, 0), (2147483652, 2147483668, 1, 0)]
def an581 : e2_Q6 := (an575, an550)
def an582 : e2_Q7 := (an546, an581)
def an583 : e2_Q8 := (an582, an569)
noncomputable def f_a33 : ev_H := (an583 : e2_Q8)
noncomputable def q_a33_0 : ev_H := (an583 : e2_Q8)
noncomputable def rs_a33 : e2_Rs := [((11, 2147483648, 2147549184), q_a33_0)]
noncomputable def s_a33 : e2_Sm := (30, as_a33, E_a33, f_a33, rs_a33)
noncomputable def S_a33 : List e2_Sm := [s_a31, s_a32]
noncomputable def I_a33 : List e2_In := [(29, 3, e2x_29), (291, 1, e2x_291)]
set_option maxRecDepth 1000000 in
theorem co_a33 : e2_okSB E_a33.length as_a33 f_a33 rs_a33 = true := by decide +kernel
def al_a33_0 : List ev_V := [(2, 77, 0), (11, 0, 4294967295), (11, 0, 4294967295), (11, 0, 4294967295), (1, 2, 4294967296), (9, 0, 0), (9, 0, 0)]
def E_a33_0 : e2_E := [(2147483648, 2147583648, 0, 0), (2147483652, 2147483668, 1, 0), (2147483648, 2147483678, 2, 0)]
noncomputable def h_a33_0 : ev_H := (an583 : e2_Q8)
def al_a33_1 : List ev_V := [(2, 77, 0), (11, 0, 4294967295), (11, 0, 4294967295), (11, 0, 4294967295), (1, 2, 4294967296), (9, 0, 0), (9, 0, 0)]
def E_a33_1 : e2_E := [(2147483648, 2147583648, 0, 0), (2147483652, 2147483668, 1, 0), (2147483648, 2147483664, 2, 0)]
noncomputable def h_a33_1 : ev_H := (an583 : e2_Q8)
def al_a33_2 : List ev_V := [(2, 77, 0), (11, 0, 4294967295), (11, 0, 4294967295), (11, 0, 4294967295), (11, 0, 4294967295), (1, 2, 4294967296), (9, 0, 0)]
def E_a33_2 : e2_E := [(2147483648, 2147583648, 0, 0), (2147483652, 2147483668, 1, 0), (2147483648, 2147483678, 2, 0)]
noncomputable def h_a33_2 : ev_H := (an583 : e2_Q8)
noncomputable def cl_a33_e : List (Nat × e2_S) := [(5, e2_cutL (al_a33_0.set 4 (11, 2147483648, 2147483678)) 2 (E_a33_0.take 2) h_a33_0)]
set_option maxRecDepth 1000000 in
theorem ck_a33_e : e2_run (e2_cal S_a33 I_a33 4000 1) (e2_fin rs_a33) e2x_30 (e2_bpL cl_a33_e) (e2_cutA cl_a33_e) 4000 (e2_seek e2x_30 0) (e2_al 7 as_a33) [] E_a33 f_a33 = true := by decide +kernel
noncomputable def cl_a33_0 : List (Nat × e2_S) := [(5, e2_cutL (al_a33_0.set 4 (13, 10, 2147483678)) 2 (E_a33_0.take 2) h_a33_0),
  (53, e2_cutL (al_a33_1.set 4 (11, 2147483648, 2147483664)) 2 (E_a33_1.take 2) h_a33_1)]
set_option maxRecDepth 1000000 in
theorem ck_a33_0 : e2_runM (e2_cal S_a33 I_a33 4000 1) (e2_fin rs_a33) e2x_30 (e2_bpL cl_a33_0) (e2_cutA cl_a33_0) 4000 (e2_seek e2x_30 5) al_a33_0 [] E_a33_0 h_a33_0 = true := by decide +kernel
set_option maxRecDepth 1000000 in
theorem ci_a33_0 : e2_idl 2 (al_a33_0.set 4 (9, 0, 0)) = true := by decide +kernel
set_option maxRecDepth 1000000 in
theorem cj_a33_0 : e2_idh 2 8 h_a33_0 = true := by decide +kernel
noncomputable def cl_a33_1 : List (Nat × e2_S) := [(53, e2_cutL (al_a33_1.set 4 (13, 10, 2147483664)) 2 (E_a33_1.take 2) h_a33_1),
  (96, e2_cutL (al_a33_2.set 5 (11, 2147483648, 2147483678)) 2 (E_a33_2.take 2) h_a33_2)]
set_option maxRecDepth 1000000 in
theorem ck_a33_1 : e2_runM (e2_cal S_a33 I_a33 4000 1) (e2_fin rs_a33) e2x_30 (e2_bpL cl_a33_1) (e2_cutA cl_a33_1) 4000 (e2_seek e2x_30 53) al_a33_1 [] E_a33_1 h_a33_1 = true := by decide +kernel
set_option maxRecDepth 1000000 in
theorem ci_a33_1 : e2_idl 2 (al_a33_1.set 4 (9, 0, 0)) = true := by decide +kernel
set_option maxRecDepth 1000000 in
theorem cj_a33_1 : e2_idh 2 8 h_a33_1 = true := by decide +kernel
noncomputable def cl_a33_2 : List (Nat × e2_S) := [(96, e2_cutL (al_a33_2.set 5 (13, 10, 2147483678)) 2 (E_a33_2.take 2) h_a33_2)]
set_option maxRecDepth 1000000 in
theorem ck_a33_2 : e2_runM (e2_cal S_a33 I_a33 4000 1) (e2_fin rs_a33) e2x_30 (e2_bpL cl_a33_2) (e2_cutA cl_a33_2) 4000 (e2_seek e2x_30 96) al_a33_2 [] E_a33_2 h_a33_2 = true := by decide +kernel
set_option maxRecDepth 1000000 in
theorem ci_a33_2 : e2_idl 2 (al_a33_2.set 5 (9, 0, 0)) = true := by decide +kernel
set_option maxRecDepth 1000000 in
theorem cj_a33_2 : e2_idh 2 8 h_a33_2 = true := by decide +kernel
theorem cs_a33 (hen : en_ok) (l : Launch) : e2_smOk l 19 s_a33 := by
  refine e2_conG (H := 17) (n := 1) (C := evd_30) (S := S_a33) (I := I_a33) (fuel := 4000) hen ei_30 (e2_fa (cs_a31 hen l) (e2_fa ((cs_a32 hen l).mono (by decide)) e2_fz)) (e2_fa ein_29 (e2_fa ein_291 e2_fz)) (by decide) co_a33 fun M d _ hC hcall p e R s m args below meth c Q D cA A ads r0 ha hl0 => ?_
  have L_2 : e2_gdM M p l e R s m args below meth c Q D cA A ads r0 96 al_a33_2 [] E_a33_2 h_a33_2 := by
    refine e2_indL (u := 2) (j := 5) (lo := 2147483648) (hi := 2147483678) (b := 2) (dd := 0) hl0 (by decide) rfl rfl (Or.inr ⟨rfl, rfl⟩) rfl ci_a33_2 cj_a33_2 ?_
    intro r_2 k_2 hk_2 hp_2 hs_2 hn_2
    have hl_2 : r_2.length ≤ 3 := hs_2.len rfl
    have ha_2 := ha.ext hp_2
    exact e2_fromM hen ha_2 hcall (e2_cutA_ok (e2_fa (fun al st E h hc => hn_2 al st E h hc) e2_fz)) (hC []) (X := e2x_30) ex2_30 96 ck_a33_2
  have EN_2 := e2_entL (u := 2) (j := 5) (lo := 2147483648) (hi := 2147483678) hl0 rfl rfl rfl ci_a33_2 cj_a33_2 L_2
  have L_1 : e2_gdM M p l e R s m args below meth c Q D cA A ads r0 53 al_a33_1 [] E_a33_1 h_a33_1 := by
    refine e2_indL (u := 2) (j := 4) (lo := 2147483648) (hi := 2147483664) (b := 2) (dd := 0) hl0 (by decide) rfl rfl (Or.inr ⟨rfl, rfl⟩) rfl ci_a33_1 cj_a33_1 ?_
    intro r_1 k_1 hk_1 hp_1 hs_1 hn_1
    have hl_1 : r_1.length ≤ 3 := hs_1.len rfl
    have ha_1 := ha.ext hp_1
    exact e2_fromM hen ha_1 hcall (e2_cutA_ok (e2_fa (fun al st E h hc => hn_1 al st E h hc) (e2_fa (fun al st E h hc => (EN_2 al st E h hc).ext hp_1) e2_fz))) (hC []) (X := e2x_30) ex2_30 53 ck_a33_1
  have EN_1 := e2_entL (u := 2) (j := 4) (lo := 2147483648) (hi := 2147483664) hl0 rfl rfl rfl ci_a33_1 cj_a33_1 L_1
  have L_0 : e2_gdM M p l e R s m args below meth c Q D cA A ads r0 5 al_a33_0 [] E_a33_0 h_a33_0 := by
    refine e2_indL (u := 2) (j := 4) (lo := 2147483648) (hi := 2147483678) (b := 2) (dd := 0) hl0 (by decide) rfl rfl (Or.inr ⟨rfl, rfl⟩) rfl ci_a33_0 cj_a33_0 ?_
    intro r_0 k_0 hk_0 hp_0 hs_0 hn_0
    have hl_0 : r_0.length ≤ 3 := hs_0.len rfl
    have ha_0 := ha.ext hp_0
    exact e2_fromM hen ha_0 hcall (e2_cutA_ok (e2_fa (fun al st E h hc => hn_0 al st E h hc) (e2_fa (fun al st E h hc => (EN_1 al st E h hc).ext hp_0) e2_fz))) (hC []) (X := e2x_30) ex2_30 5 ck_a33_0
  have EN_0 := e2_entL (u := 2) (j := 4) (lo := 2147483648) (hi := 2147483678) hl0 rfl rfl rfl ci_a33_0 cj_a33_0 L_0
  exact e2_from hen ha hcall (e2_cutA_ok (e2_fa (fun al st E h hc => EN_0 al st E h hc) e2_fz)) (hC []) (X := e2x_30) ex2_30 0 ck_a33_e
/-! a34 X1_certainty -/
def as_a34 : List ev_V := [(2, 77, 0), (11, 0, 4294967295), (11, 0, 4294967295), (11, 0, 4294967295)]
def E_a34 : e2_E := [(2147483648, 2147583648, 0, 0), (2147483652, 2147483668, 1, 0)]
noncomputable def f_a34 : ev_H := (an583 : e2_Q8)
noncomputable def q_a34_0 : ev_H := (an583 : e2_Q8)
noncomputable def rs_a34 : e2_Rs := [((11, 2147483646, 2147483649), q_a34_0)]
noncomputable def s_a34 : e2_Sm := (33, as_a34, E_a34, f_a34, rs_a34)
noncomputable def S_a34 : List e2_Sm := [s_a33]
noncomputable def I_a34 : List e2_In := [(24, 2, e2x_24), (25, 3, e2x_25)]
set_option maxRecDepth 1000000 in
theorem ck_a34 : e2_run (e2_cal S_a34 I_a34 4000 1) (e2_fin rs_a34) e2x_33 (fun _ => false) (fun _ _ _ _ _ => false) 4000 (e2_seek e2x_33 0) (e2_al 6 as_a34) [] E_a34 f_a34 = true := by decide +kernel
set_option maxRecDepth 1000000 in
theorem co_a34 : e2_okSB E_a34.length as_a34 f_a34 rs_a34 = true := by decide +kernel
theorem cs_a34 (hen : en_ok) (l : Launch) : e2_smOk l 21 s_a34 := e2_con0 (H := 19) (n := 1) (C := evd_33) (S := S_a34) (I := I_a34) (fuel := 4000) [] hen ei_33 (e2_fa (cs_a33 hen l) e2_fz) (e2_fa ein_24 (e2_fa ein_25 e2_fz)) (by decide) co_a34 ex2_33 ck_a34
/-! a35 X1_question -/
def as_a35 : List ev_V := [(2, 77, 0), (11, 0, 4294967295), (11, 0, 4294967295)]
def E_a35 : e2_E := [(2147483648, 2147583648, 0, 0), (2147483652, 2147483668, 1, 0)]
noncomputable def f_a35 : ev_H := (an583 : e2_Q8)
noncomputable def q_a35_0 : ev_H := (an583 : e2_Q8)
noncomputable def rs_a35 : e2_Rs := [((11, 2147483647, 2147549184), q_a35_0)]
noncomputable def s_a35 : e2_Sm := (34, as_a35, E_a35, f_a35, rs_a35)
noncomputable def S_a35 : List e2_Sm := [s_a33]
noncomputable def I_a35 : List e2_In := [(25, 3, e2x_25)]
set_option maxRecDepth 1000000 in
theorem co_a35 : e2_okSB E_a35.length as_a35 f_a35 rs_a35 = true := by decide +kernel
def al_a35_0 : List ev_V := [(2, 77, 0), (11, 2147483648, 2147483649), (11, 0, 4294967295), (11, 2147483649, 2147549184), (11, 2147483647, 2147483688), (11, 2147483648, 2147549184), (1, 2, 4294967296), (9, 0, 0), (9, 0, 0), (9, 0, 0)]
def E_a35_0 : e2_E := [(2147483648, 2147583648, 0, 0), (2147483652, 2147483668, 1, 0), (2147483648, 2147483652, 2, 0)]
noncomputable def h_a35_0 : ev_H := (an583 : e2_Q8)
def al_a35_1 : List ev_V := [(2, 77, 0), (11, 2147483648, 2147483649), (11, 0, 4294967295), (11, 2147483649, 2147549184), (11, 2147483647, 2147483688), (11, 2147483648, 2147549184), (1, 2, 4294967296), (1, 3, 4294967296), (9, 0, 0), (9, 0, 0)]
def E_a35_1 : e2_E := [(2147483648, 2147583648, 0, 0), (2147483652, 2147483668, 1, 0), (2147483648, 2147483651, 2, 0), (2147483648, 2147483652, 3, 0)]
noncomputable def h_a35_1 : ev_H := (an583 : e2_Q8)
noncomputable def cl_a35_e : List (Nat × e2_S) := [(38, e2_cutL (al_a35_0.set 6 (11, 2147483648, 2147483652)) 2 (E_a35_0.take 2) h_a35_0)]
set_option maxRecDepth 1000000 in
theorem ck_a35_e : e2_run (e2_cal S_a35 I_a35 4000 1) (e2_fin rs_a35) e2x_34 (e2_bpL cl_a35_e) (e2_cutA cl_a35_e) 4000 (e2_seek e2x_34 0) (e2_al 10 as_a35) [] E_a35 f_a35 = true := by decide +kernel
noncomputable def cl_a35_0 : List (Nat × e2_S) := [(50, e2_cutL (al_a35_1.set 7 (11, 2147483648, 2147483652)) 3 (E_a35_1.take 3) h_a35_1)]
set_option maxRecDepth 1000000 in
theorem ck_a35_0 : e2_runM (e2_cal S_a35 I_a35 4000 1) (e2_fin rs_a35) e2x_34 (e2_bpL cl_a35_0) (e2_cutA cl_a35_0) 4000 (e2_seek e2x_34 38) al_a35_0 [] E_a35_0 h_a35_0 = true := by decide +kernel
set_option maxRecDepth 1000000 in
theorem ci_a35_0 : e2_idl 2 (al_a35_0.set 6 (9, 0, 0)) = true := by decide +kernel
set_option maxRecDepth 1000000 in
theorem cj_a35_0 : e2_idh 2 8 h_a35_0 = true := by decide +kernel
noncomputable def cl_a35_1 : List (Nat × e2_S) := [(38, e2_cutL (al_a35_0.set 6 (13, 10, 2147483652)) 2 (E_a35_0.take 2) h_a35_0),
  (50, e2_cutL (al_a35_1.set 7 (13, 11, 2147483652)) 3 (E_a35_1.take 3) h_a35_1)]
set_option maxRecDepth 1000000 in
theorem ck_a35_1 : e2_runM (e2_cal S_a35 I_a35 4000 1) (e2_fin rs_a35) e2x_34 (e2_bpL cl_a35_1) (e2_cutA cl_a35_1) 4000 (e2_seek e2x_34 50) al_a35_1 [] E_a35_1 h_a35_1 = true := by decide +kernel
set_option maxRecDepth 1000000 in
theorem ci_a35_1 : e2_idl 3 (al_a35_1.set 7 (9, 0, 0)) = true := by decide +kernel
set_option maxRecDepth 1000000 in
theorem cj_a35_1 : e2_idh 3 8 h_a35_1 = true := by decide +kernel
theorem cs_a35 (hen : en_ok) (l : Launch) : e2_smOk l 21 s_a35 := by
  refine e2_conG (H := 19) (n := 1) (C := evd_34) (S := S_a35) (I := I_a35) (fuel := 4000) hen ei_34 (e2_fa (cs_a33 hen l) e2_fz) (e2_fa ein_25 e2_fz) (by decide) co_a35 fun M d _ hC hcall p e R s m args below meth c Q D cA A ads r0 ha hl0 => ?_
  have L_0 : e2_gdM M p l e R s m args below meth c Q D cA A ads r0 38 al_a35_0 [] E_a35_0 h_a35_0 := by
    refine e2_indL (u := 2) (j := 6) (lo := 2147483648) (hi := 2147483652) (b := 2) (dd := 0) hl0 (by decide) rfl rfl (Or.inr ⟨rfl, rfl⟩) rfl ci_a35_0 cj_a35_0 ?_
    intro r_0 k_0 hk_0 hp_0 hs_0 hn_0
    have hl_0 : r_0.length ≤ 3 := hs_0.len rfl
    have ha_0 := ha.ext hp_0
    have L_1 : e2_gdM M p l e R s m args below meth c Q D cA A ads r_0 50 al_a35_1 [] E_a35_1 h_a35_1 := by
      refine e2_indL (u := 3) (j := 7) (lo := 2147483648) (hi := 2147483652) (b := 3) (dd := 0) hl_0 (by decide) rfl rfl (Or.inr ⟨rfl, rfl⟩) rfl ci_a35_1 cj_a35_1 ?_
      intro r_1 k_1 hk_1 hp_1 hs_1 hn_1
      have hl_1 : r_1.length ≤ 4 := hs_1.len rfl
      have ha_1 := ha_0.ext hp_1
      exact e2_fromM hen ha_1 hcall (e2_cutA_ok (e2_fa (fun al st E h hc => (hn_0 al st E h hc).ext hp_1) (e2_fa (fun al st E h hc => hn_1 al st E h hc) e2_fz))) (hC []) (X := e2x_34) ex2_34 50 ck_a35_1
    have EN_1 := e2_entL (u := 3) (j := 7) (lo := 2147483648) (hi := 2147483652) hl_0 rfl rfl rfl ci_a35_1 cj_a35_1 L_1
    exact e2_fromM hen ha_0 hcall (e2_cutA_ok (e2_fa (fun al st E h hc => EN_1 al st E h hc) e2_fz)) (hC []) (X := e2x_34) ex2_34 38 ck_a35_0
  have EN_0 := e2_entL (u := 2) (j := 6) (lo := 2147483648) (hi := 2147483652) hl0 rfl rfl rfl ci_a35_0 cj_a35_0 L_0
  exact e2_from hen ha hcall (e2_cutA_ok (e2_fa (fun al st E h hc => EN_0 al st E h hc) e2_fz)) (hC []) (X := e2x_34) ex2_34 0 ck_a35_e
/-! a36 X7_readNumber -/
def as_a36 : List ev_V := [(2, 34, 0)]
def E_a36 : e2_E := [(2147483648, 2147583648, 0, 0), (2147483652, 2147483668, 1, 0)]
def an584 : e2_Q8 := (an269, an253)
noncomputable def f_a36 : ev_H := (an584 : e2_Q8)
noncomputable def q_a36_0 : ev_H := (an584 : e2_Q8)
noncomputable def rs_a36 : e2_Rs := [((9, 0, 0), q_a36_0)]
noncomputable def s_a36 : e2_Sm := (113, as_a36, E_a36, f_a36, rs_a36)
noncomputable def S_a36 : List e2_Sm := []
noncomputable def I_a36 : List e2_In := []
set_option maxRecDepth 1000000 in
theorem co_a36 : e2_okSB E_a36.length as_a36 f_a36 rs_a36 = true := by decide +kernel
def al_a36_0 : List ev_V := [(2, 34, 0)]
def E_a36_0 : e2_E := [(2147483648, 2147583648, 0, 0), (2147483652, 2147483668, 1, 0), (2147483648, 2147485248, 2, 0)]
def ac169 : ev_C := (7, [(11, 2147483648, 2147485248), (2, 35, 0), (1, 2, 4294967296), (11, 2147483520, 2147483775), (11, 2147483648, 2147485248), (11, 0, 4294967295), (5, 0, 0), (11, 2147482048, 2147485248)])
def an585 : e2_Q1 := (ac169, ac3)
def an586 : e2_Q2 := (an585, an67)
def an587 : e2_Q3 := (an65, an586)
def an588 : e2_Q4 := (an587, an76)
def an589 : e2_Q5 := (an588, an92)
def an590 : e2_Q6 := (an589, an124)
def an591 : e2_Q7 := (an62, an590)
def an592 : e2_Q8 := (an591, an253)
noncomputable def h_a36_0 : ev_H := (an592 : e2_Q8)
noncomputable def cl_a36_e : List (Nat × e2_S) := [(5, e2_cutL al_a36_0 2 (E_a36_0.take 2) (ev_hs h_a36_0 34 ((ev_hg h_a36_0 34).1, (ev_hg h_a36_0 34).2.set 2 (11, 2147483648, 2147485248))))]
set_option maxRecDepth 1000000 in
theorem ck_a36_e : e2_run (e2_cal S_a36 I_a36 4000 0) (e2_fin rs_a36) e2x_113 (e2_bpL cl_a36_e) (e2_cutA cl_a36_e) 4000 (e2_seek e2x_113 0) (e2_al 1 as_a36) [] E_a36 f_a36 = true := by decide +kernel
noncomputable def cl_a36_0 : List (Nat × e2_S) := [(5, e2_cutL al_a36_0 2 (E_a36_0.take 2) (ev_hs h_a36_0 34 ((ev_hg h_a36_0 34).1, (ev_hg h_a36_0 34).2.set 2 (13, 10, 2147485248))))]
set_option maxRecDepth 1000000 in
theorem ck_a36_0 : e2_runM (e2_cal S_a36 I_a36 4000 0) (e2_fin rs_a36) e2x_113 (e2_bpL cl_a36_0) (e2_cutA cl_a36_0) 4000 (e2_seek e2x_113 5) al_a36_0 [] E_a36_0 h_a36_0 = true := by decide +kernel
set_option maxRecDepth 1000000 in
theorem ci_a36_0 : e2_idl 2 al_a36_0 = true := by decide +kernel
set_option maxRecDepth 1000000 in
theorem cj_a36_0 : e2_idh 2 8 (ev_hs h_a36_0 34 ((ev_hg h_a36_0 34).1, (ev_hg h_a36_0 34).2.set 2 (7, 0, 0))) = true := by decide +kernel
set_option maxRecDepth 1000000 in
theorem cg_a36_0 : (ev_hg h_a36_0 34).1 < 50 ∧ (ev_hg h_a36_0 34).2[2]? = some (1, 2, 4294967296) := by decide +kernel
theorem cs_a36 (hen : en_ok) (l : Launch) : e2_smOk l 1 s_a36 := by
  refine e2_conG (H := 0) (n := 0) (C := evd_113) (S := S_a36) (I := I_a36) (fuel := 4000) hen ei_113 e2_fz e2_fz (by decide) co_a36 fun M d _ hC hcall p e R s m args below meth c Q D cA A ads r0 ha hl0 => ?_
  have L_0 : e2_gdM M p l e R s m args below meth c Q D cA A ads r0 5 al_a36_0 [] E_a36_0 h_a36_0 := by
    refine e2_indH (u := 2) (a := 34) (j := 2) (lo := 2147483648) (hi := 2147485248) (b := 2) (dd := 0) hl0 (by decide) rfl rfl (Or.inr ⟨rfl, rfl⟩) (by decide) cg_a36_0.1 cg_a36_0.2 ci_a36_0 cj_a36_0 rfl ?_
    intro r_0 k_0 hk_0 hp_0 hs_0 hn_0
    have hl_0 : r_0.length ≤ 3 := hs_0.len rfl
    have ha_0 := ha.ext hp_0
    exact e2_fromM hen ha_0 hcall (e2_cutA_ok (e2_fa (fun al st E h hc => hn_0 al st E h hc) e2_fz)) (hC []) (X := e2x_113) ex2_113 5 ck_a36_0
  have EN_0 := e2_entH (u := 2) (a := 34) (j := 2) (lo := 2147483648) (hi := 2147485248) hl0 rfl rfl (by decide) cg_a36_0.1 cg_a36_0.2 ci_a36_0 cj_a36_0 rfl L_0
  exact e2_from hen ha hcall (e2_cutA_ok (e2_fa (fun al st E h hc => EN_0 al st E h hc) e2_fz)) (hC []) (X := e2x_113) ex2_113 0 ck_a36_e
/-! a37 X7_readWord -/
def as_a37 : List ev_V := [(2, 34, 0)]
def E_a37 : e2_E := [(2147483648, 2147583648, 0, 0), (2147483652, 2147483668, 1, 0)]
noncomputable def f_a37 : ev_H := (an584 : e2_Q8)
noncomputable def q_a37_0 : ev_H := (an584 : e2_Q8)
noncomputable def rs_a37 : e2_Rs := [((9, 0, 0), q_a37_0)]
noncomputable def s_a37 : e2_Sm := (111, as_a37, E_a37, f_a37, rs_a37)
noncomputable def S_a37 : List e2_Sm := []
noncomputable def I_a37 : List e2_In := []
set_option maxRecDepth 1000000 in
theorem co_a37 : e2_okSB E_a37.length as_a37 f_a37 rs_a37 = true := by decide +kernel
def al_a37_0 : List ev_V := [(2, 34, 0)]
def E_a37_0 : e2_E := [(2147483648, 2147583648, 0, 0), (2147483652, 2147483668, 1, 0), (2147483648, 2147485248, 2, 0)]
noncomputable def h_a37_0 : ev_H := (an592 : e2_Q8)
noncomputable def cl_a37_e : List (Nat × e2_S) := [(5, e2_cutL al_a37_0 2 (E_a37_0.take 2) (ev_hs h_a37_0 34 ((ev_hg h_a37_0 34).1, (ev_hg h_a37_0 34).2.set 2 (11, 2147483648, 2147485248))))]
set_option maxRecDepth 1000000 in
theorem ck_a37_e : e2_run (e2_cal S_a37 I_a37 4000 0) (e2_fin rs_a37) e2x_111 (e2_bpL cl_a37_e) (e2_cutA cl_a37_e) 4000 (e2_seek e2x_111 0) (e2_al 1 as_a37) [] E_a37 f_a37 = true := by decide +kernel
noncomputable def cl_a37_0 : List (Nat × e2_S) := [(5, e2_cutL al_a37_0 2 (E_a37_0.take 2) (ev_hs h_a37_0 34 ((ev_hg h_a37_0 34).1, (ev_hg h_a37_0 34).2.set 2 (13, 10, 2147485248))))]
set_option maxRecDepth 1000000 in
theorem ck_a37_0 : e2_runM (e2_cal S_a37 I_a37 4000 0) (e2_fin rs_a37) e2x_111 (e2_bpL cl_a37_0) (e2_cutA cl_a37_0) 4000 (e2_seek e2x_111 5) al_a37_0 [] E_a37_0 h_a37_0 = true := by decide +kernel
set_option maxRecDepth 1000000 in
theorem ci_a37_0 : e2_idl 2 al_a37_0 = true := by decide +kernel
set_option maxRecDepth 1000000 in
theorem cj_a37_0 : e2_idh 2 8 (ev_hs h_a37_0 34 ((ev_hg h_a37_0 34).1, (ev_hg h_a37_0 34).2.set 2 (7, 0, 0))) = true := by decide +kernel
set_option maxRecDepth 1000000 in
theorem cg_a37_0 : (ev_hg h_a37_0 34).1 < 50 ∧ (ev_hg h_a37_0 34).2[2]? = some (1, 2, 4294967296) := by decide +kernel
theorem cs_a37 (hen : en_ok) (l : Launch) : e2_smOk l 1 s_a37 := by
  refine e2_conG (H := 0) (n := 0) (C := evd_111) (S := S_a37) (I := I_a37) (fuel := 4000) hen ei_111 e2_fz e2_fz (by decide) co_a37 fun M d _ hC hcall p e R s m args below meth c Q D cA A ads r0 ha hl0 => ?_
  have L_0 : e2_gdM M p l e R s m args below meth c Q D cA A ads r0 5 al_a37_0 [] E_a37_0 h_a37_0 := by
    refine e2_indH (u := 2) (a := 34) (j := 2) (lo := 2147483648) (hi := 2147485248) (b := 2) (dd := 0) hl0 (by decide) rfl rfl (Or.inr ⟨rfl, rfl⟩) (by decide) cg_a37_0.1 cg_a37_0.2 ci_a37_0 cj_a37_0 rfl ?_
    intro r_0 k_0 hk_0 hp_0 hs_0 hn_0
    have hl_0 : r_0.length ≤ 3 := hs_0.len rfl
    have ha_0 := ha.ext hp_0
    exact e2_fromM hen ha_0 hcall (e2_cutA_ok (e2_fa (fun al st E h hc => hn_0 al st E h hc) e2_fz)) (hC []) (X := e2x_111) ex2_111 5 ck_a37_0
  have EN_0 := e2_entH (u := 2) (a := 34) (j := 2) (lo := 2147483648) (hi := 2147485248) hl0 rfl rfl (by decide) cg_a37_0.1 cg_a37_0.2 ci_a37_0 cj_a37_0 rfl L_0
  exact e2_from hen ha hcall (e2_cutA_ok (e2_fa (fun al st E h hc => EN_0 al st E h hc) e2_fz)) (hC []) (X := e2x_111) ex2_111 0 ck_a37_e
/-! a38 X7_advance -/
def as_a38 : List ev_V := [(2, 34, 0)]
def E_a38 : e2_E := [(2147483648, 2147583648, 0, 0), (2147483652, 2147483668, 1, 0)]
noncomputable def f_a38 : ev_H := (an584 : e2_Q8)
noncomputable def q_a38_0 : ev_H := (an584 : e2_Q8)
noncomputable def rs_a38 : e2_Rs := [((9, 0, 0), q_a38_0)]
noncomputable def s_a38 : e2_Sm := (108, as_a38, E_a38, f_a38, rs_a38)
noncomputable def S_a38 : List e2_Sm := [s_a1, s_a2, s_a36, s_a37]
noncomputable def I_a38 : List e2_In := [(109, 2, e2x_109), (110, 2, e2x_110)]
set_option maxRecDepth 1000000 in
theorem co_a38 : e2_okSB E_a38.length as_a38 f_a38 rs_a38 = true := by decide +kernel
def al_a38_0 : List ev_V := [(2, 34, 0)]
def E_a38_0 : e2_E := [(2147483648, 2147583648, 0, 0), (2147483652, 2147483668, 1, 0), (2147483648, 2147485248, 2, 0)]
noncomputable def h_a38_0 : ev_H := (an592 : e2_Q8)
noncomputable def cl_a38_e : List (Nat × e2_S) := [(0, e2_cutL al_a38_0 2 (E_a38_0.take 2) (ev_hs h_a38_0 34 ((ev_hg h_a38_0 34).1, (ev_hg h_a38_0 34).2.set 2 (11, 2147483648, 2147485248))))]
set_option maxRecDepth 1000000 in
theorem ck_a38_e : e2_run (e2_cal S_a38 I_a38 4000 1) (e2_fin rs_a38) e2x_108 (e2_bpL cl_a38_e) (e2_cutA cl_a38_e) 4000 (e2_seek e2x_108 0) (e2_al 1 as_a38) [] E_a38 f_a38 = true := by decide +kernel
noncomputable def cl_a38_0 : List (Nat × e2_S) := [(0, e2_cutL al_a38_0 2 (E_a38_0.take 2) (ev_hs h_a38_0 34 ((ev_hg h_a38_0 34).1, (ev_hg h_a38_0 34).2.set 2 (13, 10, 2147485248))))]
set_option maxRecDepth 1000000 in
theorem ck_a38_0 : e2_runM (e2_cal S_a38 I_a38 4000 1) (e2_fin rs_a38) e2x_108 (e2_bpL cl_a38_0) (e2_cutA cl_a38_0) 4000 (e2_seek e2x_108 0) al_a38_0 [] E_a38_0 h_a38_0 = true := by decide +kernel
set_option maxRecDepth 1000000 in
theorem ci_a38_0 : e2_idl 2 al_a38_0 = true := by decide +kernel
set_option maxRecDepth 1000000 in
theorem cj_a38_0 : e2_idh 2 8 (ev_hs h_a38_0 34 ((ev_hg h_a38_0 34).1, (ev_hg h_a38_0 34).2.set 2 (7, 0, 0))) = true := by decide +kernel
set_option maxRecDepth 1000000 in
theorem cg_a38_0 : (ev_hg h_a38_0 34).1 < 50 ∧ (ev_hg h_a38_0 34).2[2]? = some (1, 2, 4294967296) := by decide +kernel
theorem cs_a38 (hen : en_ok) (l : Launch) (hh : e2_hand_a l) : e2_smOk l 62 s_a38 := by
  refine e2_conG (H := 60) (n := 1) (C := evd_108) (S := S_a38) (I := I_a38) (fuel := 4000) hen ei_108 (e2_fa (hh _ hm_a1) (e2_fa (hh _ hm_a2) (e2_fa ((cs_a36 hen l).mono (by decide)) (e2_fa ((cs_a37 hen l).mono (by decide)) e2_fz)))) (e2_fa ein_109 (e2_fa ein_110 e2_fz)) (by decide) co_a38 fun M d _ hC hcall p e R s m args below meth c Q D cA A ads r0 ha hl0 => ?_
  have L_0 : e2_gdM M p l e R s m args below meth c Q D cA A ads r0 0 al_a38_0 [] E_a38_0 h_a38_0 := by
    refine e2_indH (u := 2) (a := 34) (j := 2) (lo := 2147483648) (hi := 2147485248) (b := 2) (dd := 0) hl0 (by decide) rfl rfl (Or.inr ⟨rfl, rfl⟩) (by decide) cg_a38_0.1 cg_a38_0.2 ci_a38_0 cj_a38_0 rfl ?_
    intro r_0 k_0 hk_0 hp_0 hs_0 hn_0
    have hl_0 : r_0.length ≤ 3 := hs_0.len rfl
    have ha_0 := ha.ext hp_0
    exact e2_fromM hen ha_0 hcall (e2_cutA_ok (e2_fa (fun al st E h hc => hn_0 al st E h hc) e2_fz)) (hC []) (X := e2x_108) ex2_108 0 ck_a38_0
  have EN_0 := e2_entH (u := 2) (a := 34) (j := 2) (lo := 2147483648) (hi := 2147485248) hl0 rfl rfl (by decide) cg_a38_0.1 cg_a38_0.2 ci_a38_0 cj_a38_0 rfl L_0
  exact e2_from hen ha hcall (e2_cutA_ok (e2_fa (fun al st E h hc => EN_0 al st E h hc) e2_fz)) (hC []) (X := e2x_108) ex2_108 0 ck_a38_e
/-! a39 X3_expect -/
def as_a39 : List ev_V := [(2, 33, 0), (11, 2147483660, 2147483707)]
def E_a39 : e2_E := [(2147483648, 2147583648, 0, 0), (2147483652, 2147483668, 1, 0), (2147483648, 2147485248, 2, 0)]
def ac170 : ev_C := (3, [(2, 34, 0), (2, 17, 0), (1, 2, 4294967296), (11, 2147483648, 2147483649), (11, 0, 4294967295), (11, 0, 4294967295), (11, 0, 4294967295), (11, 0, 4294967295)])
def an593 : e2_Q1 := (ac170, ac3)
def an594 : e2_Q2 := (an593, an131)
def an595 : e2_Q3 := (an129, an594)
def an596 : e2_Q4 := (an595, an140)
def an597 : e2_Q5 := (an596, an156)
def an598 : e2_Q6 := (an597, an188)
def an599 : e2_Q7 := (an598, an252)
def an600 : e2_Q8 := (an269, an599)
noncomputable def f_a39 : ev_H := (an600 : e2_Q8)
noncomputable def q_a39_0 : ev_H := (an600 : e2_Q8)
noncomputable def rs_a39 : e2_Rs := [((11, 2147483648, 2147483649), q_a39_0)]
noncomputable def s_a39 : e2_Sm := (45, as_a39, E_a39, f_a39, rs_a39)
noncomputable def S_a39 : List e2_Sm := [s_a38]
noncomputable def I_a39 : List e2_In := [(43, 2, e2x_43), (44, 3, e2x_44)]
set_option maxRecDepth 1000000 in
theorem ck_a39 : e2_run (e2_cal S_a39 I_a39 4000 2) (e2_fin rs_a39) e2x_45 (fun _ => false) (fun _ _ _ _ _ => false) 4000 (e2_seek e2x_45 0) (e2_al 2 as_a39) [] E_a39 f_a39 = true := by decide +kernel
set_option maxRecDepth 1000000 in
theorem co_a39 : e2_okSB E_a39.length as_a39 f_a39 rs_a39 = true := by decide +kernel
theorem cs_a39 (hen : en_ok) (l : Launch) (hh : e2_hand_a l) : e2_smOk l 65 s_a39 := e2_con0 (H := 62) (n := 2) (C := evd_45) (S := S_a39) (I := I_a39) (fuel := 4000) [] hen ei_45 (e2_fa (cs_a38 hen l hh) e2_fz) (e2_fa ein_43 (e2_fa ein_44 e2_fz)) (by decide) co_a39 ex2_45 ck_a39
/-! a40 X3_parseBarn -/
def as_a40 : List ev_V := [(2, 33, 0)]
def E_a40 : e2_E := [(2147483648, 2147583648, 0, 0), (2147483652, 2147483668, 1, 0), (2147483648, 2147485248, 2, 0)]
def an601 : e2_Q4 := (an595, an459)
def an602 : e2_Q5 := (an601, an156)
def an603 : e2_Q6 := (an602, an188)
def an604 : e2_Q7 := (an603, an252)
def an605 : e2_Q8 := (an269, an604)
noncomputable def f_a40 : ev_H := (an605 : e2_Q8)
noncomputable def q_a40_0 : ev_H := (an605 : e2_Q8)
noncomputable def rs_a40 : e2_Rs := [((11, 2147483648, 2147483649), q_a40_0)]
noncomputable def s_a40 : e2_Sm := (56, as_a40, E_a40, f_a40, rs_a40)
noncomputable def S_a40 : List e2_Sm := [s_a38, s_a39]
noncomputable def I_a40 : List e2_In := [(43, 2, e2x_43), (44, 3, e2x_44), (46, 3, e2x_46), (159, 2, e2x_159), (291, 1, e2x_291)]
set_option maxRecDepth 1000000 in
theorem ck_a40 : e2_run (e2_cal S_a40 I_a40 4000 3) (e2_fin rs_a40) e2x_56 (fun _ => false) (fun _ _ _ _ _ => false) 4000 (e2_seek e2x_56 0) (e2_al 1 as_a40) [] E_a40 f_a40 = true := by decide +kernel
set_option maxRecDepth 1000000 in
theorem co_a40 : e2_okSB E_a40.length as_a40 f_a40 rs_a40 = true := by decide +kernel
theorem cs_a40 (hen : en_ok) (l : Launch) (hh : e2_hand_a l) : e2_smOk l 69 s_a40 := e2_con0 (H := 65) (n := 3) (C := evd_56) (S := S_a40) (I := I_a40) (fuel := 4000) [] hen ei_56 (e2_fa ((cs_a38 hen l hh).mono (by decide)) (e2_fa (cs_a39 hen l hh) e2_fz)) (e2_fa ein_43 (e2_fa ein_44 (e2_fa ein_46 (e2_fa ein_159 (e2_fa ein_291 e2_fz))))) (by decide) co_a40 ex2_56 ck_a40
/-! a41 X3_passNumber -/
def as_a41 : List ev_V := [(2, 33, 0), (0, 0, 0), (0, 999, 0)]
def E_a41 : e2_E := [(2147483648, 2147583648, 0, 0), (2147483652, 2147483668, 1, 0), (2147483648, 2147485248, 2, 0)]
noncomputable def f_a41 : ev_H := (an600 : e2_Q8)
def ac171 : ev_C := (3, [(2, 34, 0), (2, 17, 0), (1, 2, 4294967296), (11, 2147483648, 2147483649), (11, 0, 4294967295), (11, 0, 4294967295), (11, 2147483649, 2147483652), (11, 2147483648, 2147485248)])
def an606 : e2_Q1 := (ac171, ac3)
def an607 : e2_Q2 := (an606, an131)
def an608 : e2_Q3 := (an129, an607)
def an609 : e2_Q4 := (an608, an140)
def an610 : e2_Q5 := (an609, an156)
def an611 : e2_Q6 := (an610, an188)
def an612 : e2_Q7 := (an611, an252)
def an613 : e2_Q8 := (an269, an612)
noncomputable def q_a41_0 : ev_H := (an613 : e2_Q8)
def ac172 : ev_C := (3, [(2, 34, 0), (2, 17, 0), (1, 2, 4294967296), (11, 2147483648, 2147483649), (11, 0, 4294967295), (11, 2147483648, 2147484647), (11, 0, 4294967295), (11, 0, 4294967295)])
def an614 : e2_Q1 := (ac172, ac3)
def an615 : e2_Q2 := (an614, an131)
def an616 : e2_Q3 := (an129, an615)
def an617 : e2_Q4 := (an616, an140)
def an618 : e2_Q5 := (an617, an156)
def an619 : e2_Q6 := (an618, an188)
def an620 : e2_Q7 := (an619, an252)
def an621 : e2_Q8 := (an269, an620)
noncomputable def q_a41_1 : ev_H := (an621 : e2_Q8)
noncomputable def rs_a41 : e2_Rs := [((0, 0, 0), q_a41_0), ((0, 1, 0), q_a41_1)]
noncomputable def s_a41 : e2_Sm := (47, as_a41, E_a41, f_a41, rs_a41)
noncomputable def S_a41 : List e2_Sm := [s_a38]
noncomputable def I_a41 : List e2_In := [(43, 2, e2x_43), (44, 3, e2x_44), (46, 3, e2x_46)]
set_option maxRecDepth 1000000 in
theorem ck_a41 : e2_run (e2_cal S_a41 I_a41 4000 3) (e2_fin rs_a41) e2x_47 (fun _ => false) (fun _ _ _ _ _ => false) 4000 (e2_seek e2x_47 0) (e2_al 3 as_a41) [] E_a41 f_a41 = true := by decide +kernel
set_option maxRecDepth 1000000 in
theorem co_a41 : e2_okSB E_a41.length as_a41 f_a41 rs_a41 = true := by decide +kernel
theorem cs_a41 (hen : en_ok) (l : Launch) (hh : e2_hand_a l) : e2_smOk l 66 s_a41 := e2_con0 (H := 62) (n := 3) (C := evd_47) (S := S_a41) (I := I_a41) (fuel := 4000) [] hen ei_47 (e2_fa (cs_a38 hen l hh) e2_fz) (e2_fa ein_43 (e2_fa ein_44 (e2_fa ein_46 e2_fz))) (by decide) co_a41 ex2_47 ck_a41
/-! a42 X3_parseDraw -/
def as_a42 : List ev_V := [(2, 33, 0)]
def E_a42 : e2_E := [(2147483648, 2147583648, 0, 0), (2147483652, 2147483668, 1, 0), (2147483648, 2147485248, 2, 0)]
noncomputable def f_a42 : ev_H := (an605 : e2_Q8)
noncomputable def q_a42_0 : ev_H := (an605 : e2_Q8)
noncomputable def rs_a42 : e2_Rs := [((11, 2147483648, 2147483649), q_a42_0)]
noncomputable def s_a42 : e2_Sm := (57, as_a42, E_a42, f_a42, rs_a42)
noncomputable def S_a42 : List e2_Sm := [s_a38, s_a39, s_a41]
noncomputable def I_a42 : List e2_In := [(43, 2, e2x_43), (44, 3, e2x_44)]
set_option maxRecDepth 1000000 in
theorem ck_a42 : e2_run (e2_cal S_a42 I_a42 4000 2) (e2_fin rs_a42) e2x_57 (fun _ => false) (fun _ _ _ _ _ => false) 4000 (e2_seek e2x_57 0) (e2_al 1 as_a42) [] E_a42 f_a42 = true := by decide +kernel
set_option maxRecDepth 1000000 in
theorem co_a42 : e2_okSB E_a42.length as_a42 f_a42 rs_a42 = true := by decide +kernel
theorem cs_a42 (hen : en_ok) (l : Launch) (hh : e2_hand_a l) : e2_smOk l 69 s_a42 := e2_con0 (H := 66) (n := 2) (C := evd_57) (S := S_a42) (I := I_a42) (fuel := 4000) [] hen ei_57 (e2_fa ((cs_a38 hen l hh).mono (by decide)) (e2_fa ((cs_a39 hen l hh).mono (by decide)) (e2_fa (cs_a41 hen l hh) e2_fz))) (e2_fa ein_43 (e2_fa ein_44 e2_fz)) (by decide) co_a42 ex2_57 ck_a42
/-! a43 X3_parseUnit -/
def as_a43 : List ev_V := [(2, 33, 0), (2, 27, 0), (0, 7, 0)]
def E_a43 : e2_E := [(2147483648, 2147583648, 0, 0), (2147483652, 2147483668, 1, 0), (2147483648, 2147485248, 2, 0)]
def an622 : e2_Q2 := (an477, an54)
def an623 : e2_Q3 := (an622, an58)
def an624 : e2_Q4 := (an52, an623)
def an625 : e2_Q5 := (an45, an624)
def an626 : e2_Q6 := (an30, an625)
def an627 : e2_Q7 := (an626, an268)
def ac173 : ev_C := (0, [(2, 28, 0), (2, 29, 0), (11, 0, 4294967295), (11, 2147483648, 2147483948)])
def an628 : e2_Q1 := (ac173, ac3)
def an629 : e2_Q2 := (an628, an213)
def an630 : e2_Q3 := (an629, an217)
def an631 : e2_Q4 := (an211, an630)
def an632 : e2_Q5 := (an204, an631)
def an633 : e2_Q6 := (an632, an251)
def an634 : e2_Q7 := (an603, an633)
def an635 : e2_Q8 := (an627, an634)
noncomputable def f_a43 : ev_H := (an635 : e2_Q8)
noncomputable def q_a43_0 : ev_H := (an635 : e2_Q8)
noncomputable def rs_a43 : e2_Rs := [((11, 2147483648, 2147483649), q_a43_0)]
noncomputable def s_a43 : e2_Sm := (62, as_a43, E_a43, f_a43, rs_a43)
noncomputable def S_a43 : List e2_Sm := [s_a38]
noncomputable def I_a43 : List e2_In := [(18, 2, e2x_18), (19, 2, e2x_19), (20, 2, e2x_20), (43, 2, e2x_43), (44, 3, e2x_44)]
set_option maxRecDepth 1000000 in
theorem ck_a43 : e2_run (e2_cal S_a43 I_a43 4000 2) (e2_fin rs_a43) e2x_62 (fun _ => false) (fun _ _ _ _ _ => false) 4000 (e2_seek e2x_62 0) (e2_al 7 as_a43) [] E_a43 f_a43 = true := by decide +kernel
set_option maxRecDepth 1000000 in
theorem co_a43 : e2_okSB E_a43.length as_a43 f_a43 rs_a43 = true := by decide +kernel
theorem cs_a43 (hen : en_ok) (l : Launch) (hh : e2_hand_a l) : e2_smOk l 65 s_a43 := e2_con0 (H := 62) (n := 2) (C := evd_62) (S := S_a43) (I := I_a43) (fuel := 4000) [] hen ei_62 (e2_fa (cs_a38 hen l hh) e2_fz) (e2_fa ein_18 (e2_fa ein_19 (e2_fa ein_20 (e2_fa ein_43 (e2_fa ein_44 e2_fz))))) (by decide) co_a43 ex2_62 ck_a43
/-! a44 X3_parseLevel -/
def as_a44 : List ev_V := [(2, 33, 0), (2, 27, 0), (0, 5, 0), (0, 7, 0)]
def E_a44 : e2_E := [(2147483648, 2147583648, 0, 0), (2147483652, 2147483668, 1, 0), (2147483648, 2147485248, 2, 0)]
noncomputable def f_a44 : ev_H := (an635 : e2_Q8)
noncomputable def q_a44_0 : ev_H := (an635 : e2_Q8)
noncomputable def rs_a44 : e2_Rs := [((11, 2147483648, 2147483649), q_a44_0)]
noncomputable def s_a44 : e2_Sm := (59, as_a44, E_a44, f_a44, rs_a44)
noncomputable def S_a44 : List e2_Sm := [s_a43]
noncomputable def I_a44 : List e2_In := []
set_option maxRecDepth 1000000 in
theorem ck_a44 : e2_run (e2_cal S_a44 I_a44 4000 0) (e2_fin rs_a44) e2x_59 (fun _ => false) (fun _ _ _ _ _ => false) 4000 (e2_seek e2x_59 0) (e2_al 7 as_a44) [] E_a44 f_a44 = true := by decide +kernel
set_option maxRecDepth 1000000 in
theorem co_a44 : e2_okSB E_a44.length as_a44 f_a44 rs_a44 = true := by decide +kernel
theorem cs_a44 (hen : en_ok) (l : Launch) (hh : e2_hand_a l) : e2_smOk l 66 s_a44 := e2_con0 (H := 65) (n := 0) (C := evd_59) (S := S_a44) (I := I_a44) (fuel := 4000) [] hen ei_59 (e2_fa (cs_a43 hen l hh) e2_fz) e2_fz (by decide) co_a44 ex2_59 ck_a44
/-! a45 X3_parseLevel -/
def as_a45 : List ev_V := [(2, 33, 0), (2, 27, 0), (0, 4, 0), (0, 7, 0)]
def E_a45 : e2_E := [(2147483648, 2147583648, 0, 0), (2147483652, 2147483668, 1, 0), (2147483648, 2147485248, 2, 0)]
noncomputable def f_a45 : ev_H := (an635 : e2_Q8)
noncomputable def q_a45_0 : ev_H := (an635 : e2_Q8)
noncomputable def rs_a45 : e2_Rs := [((11, 2147483648, 2147483649), q_a45_0)]
noncomputable def s_a45 : e2_Sm := (59, as_a45, E_a45, f_a45, rs_a45)
noncomputable def S_a45 : List e2_Sm := [s_a38, s_a44]
noncomputable def I_a45 : List e2_In := [(19, 2, e2x_19), (20, 2, e2x_20), (60, 1, e2x_60)]
set_option maxRecDepth 1000000 in
theorem co_a45 : e2_okSB E_a45.length as_a45 f_a45 rs_a45 = true := by decide +kernel
def al_a45_0 : List ev_V := [(2, 33, 0), (2, 27, 0), (0, 4, 0), (0, 7, 0), (0, 30, 0), (1, 3, 4294967296), (9, 0, 0)]
def E_a45_0 : e2_E := [(2147483648, 2147583648, 0, 0), (2147483652, 2147483668, 1, 0), (2147483648, 2147485248, 2, 0), (2147483648, 2147483678, 3, 0)]
noncomputable def h_a45_0 : ev_H := (an635 : e2_Q8)
noncomputable def cl_a45_e : List (Nat × e2_S) := [(66, e2_cutL (al_a45_0.set 5 (11, 2147483648, 2147483678)) 3 (E_a45_0.take 3) h_a45_0)]
set_option maxRecDepth 1000000 in
theorem ck_a45_e : e2_run (e2_cal S_a45 I_a45 4000 2) (e2_fin rs_a45) e2x_59 (e2_bpL cl_a45_e) (e2_cutA cl_a45_e) 4000 (e2_seek e2x_59 0) (e2_al 7 as_a45) [] E_a45 f_a45 = true := by decide +kernel
noncomputable def cl_a45_0 : List (Nat × e2_S) := [(66, e2_cutL (al_a45_0.set 5 (13, 11, 2147483678)) 3 (E_a45_0.take 3) h_a45_0)]
set_option maxRecDepth 1000000 in
theorem ck_a45_0 : e2_runM (e2_cal S_a45 I_a45 4000 2) (e2_fin rs_a45) e2x_59 (e2_bpL cl_a45_0) (e2_cutA cl_a45_0) 4000 (e2_seek e2x_59 66) al_a45_0 [] E_a45_0 h_a45_0 = true := by decide +kernel
set_option maxRecDepth 1000000 in
theorem ci_a45_0 : e2_idl 3 (al_a45_0.set 5 (9, 0, 0)) = true := by decide +kernel
set_option maxRecDepth 1000000 in
theorem cj_a45_0 : e2_idh 3 8 h_a45_0 = true := by decide +kernel
theorem cs_a45 (hen : en_ok) (l : Launch) (hh : e2_hand_a l) : e2_smOk l 69 s_a45 := by
  refine e2_conG (H := 66) (n := 2) (C := evd_59) (S := S_a45) (I := I_a45) (fuel := 4000) hen ei_59 (e2_fa ((cs_a38 hen l hh).mono (by decide)) (e2_fa (cs_a44 hen l hh) e2_fz)) (e2_fa ein_19 (e2_fa ein_20 (e2_fa ein_60 e2_fz))) (by decide) co_a45 fun M d _ hC hcall p e R s m args below meth c Q D cA A ads r0 ha hl0 => ?_
  have L_0 : e2_gdM M p l e R s m args below meth c Q D cA A ads r0 66 al_a45_0 [] E_a45_0 h_a45_0 := by
    refine e2_indL (u := 3) (j := 5) (lo := 2147483648) (hi := 2147483678) (b := 3) (dd := 0) hl0 (by decide) rfl rfl (Or.inr ⟨rfl, rfl⟩) rfl ci_a45_0 cj_a45_0 ?_
    intro r_0 k_0 hk_0 hp_0 hs_0 hn_0
    have hl_0 : r_0.length ≤ 4 := hs_0.len rfl
    have ha_0 := ha.ext hp_0
    exact e2_fromM hen ha_0 hcall (e2_cutA_ok (e2_fa (fun al st E h hc => hn_0 al st E h hc) e2_fz)) (hC []) (X := e2x_59) ex2_59 66 ck_a45_0
  have EN_0 := e2_entL (u := 3) (j := 5) (lo := 2147483648) (hi := 2147483678) hl0 rfl rfl rfl ci_a45_0 cj_a45_0 L_0
  exact e2_from hen ha hcall (e2_cutA_ok (e2_fa (fun al st E h hc => EN_0 al st E h hc) e2_fz)) (hC []) (X := e2x_59) ex2_59 0 ck_a45_e
/-! a46 X3_parseLevel -/
def as_a46 : List ev_V := [(2, 33, 0), (2, 27, 0), (0, 3, 0), (0, 7, 0)]
def E_a46 : e2_E := [(2147483648, 2147583648, 0, 0), (2147483652, 2147483668, 1, 0), (2147483648, 2147485248, 2, 0)]
noncomputable def f_a46 : ev_H := (an635 : e2_Q8)
noncomputable def q_a46_0 : ev_H := (an635 : e2_Q8)
noncomputable def rs_a46 : e2_Rs := [((11, 2147483648, 2147483649), q_a46_0)]
noncomputable def s_a46 : e2_Sm := (59, as_a46, E_a46, f_a46, rs_a46)
noncomputable def S_a46 : List e2_Sm := [s_a38, s_a45]
noncomputable def I_a46 : List e2_In := [(19, 2, e2x_19), (20, 2, e2x_20), (60, 1, e2x_60)]
set_option maxRecDepth 1000000 in
theorem co_a46 : e2_okSB E_a46.length as_a46 f_a46 rs_a46 = true := by decide +kernel
def al_a46_0 : List ev_V := [(2, 33, 0), (2, 27, 0), (0, 3, 0), (0, 7, 0), (0, 30, 0), (1, 3, 4294967296), (9, 0, 0)]
def E_a46_0 : e2_E := [(2147483648, 2147583648, 0, 0), (2147483652, 2147483668, 1, 0), (2147483648, 2147485248, 2, 0), (2147483648, 2147483678, 3, 0)]
noncomputable def h_a46_0 : ev_H := (an635 : e2_Q8)
noncomputable def cl_a46_e : List (Nat × e2_S) := [(66, e2_cutL (al_a46_0.set 5 (11, 2147483648, 2147483678)) 3 (E_a46_0.take 3) h_a46_0)]
set_option maxRecDepth 1000000 in
theorem ck_a46_e : e2_run (e2_cal S_a46 I_a46 4000 2) (e2_fin rs_a46) e2x_59 (e2_bpL cl_a46_e) (e2_cutA cl_a46_e) 4000 (e2_seek e2x_59 0) (e2_al 7 as_a46) [] E_a46 f_a46 = true := by decide +kernel
noncomputable def cl_a46_0 : List (Nat × e2_S) := [(66, e2_cutL (al_a46_0.set 5 (13, 11, 2147483678)) 3 (E_a46_0.take 3) h_a46_0)]
set_option maxRecDepth 1000000 in
theorem ck_a46_0 : e2_runM (e2_cal S_a46 I_a46 4000 2) (e2_fin rs_a46) e2x_59 (e2_bpL cl_a46_0) (e2_cutA cl_a46_0) 4000 (e2_seek e2x_59 66) al_a46_0 [] E_a46_0 h_a46_0 = true := by decide +kernel
set_option maxRecDepth 1000000 in
theorem ci_a46_0 : e2_idl 3 (al_a46_0.set 5 (9, 0, 0)) = true := by decide +kernel
set_option maxRecDepth 1000000 in
theorem cj_a46_0 : e2_idh 3 8 h_a46_0 = true := by decide +kernel
theorem cs_a46 (hen : en_ok) (l : Launch) (hh : e2_hand_a l) : e2_smOk l 72 s_a46 := by
  refine e2_conG (H := 69) (n := 2) (C := evd_59) (S := S_a46) (I := I_a46) (fuel := 4000) hen ei_59 (e2_fa ((cs_a38 hen l hh).mono (by decide)) (e2_fa (cs_a45 hen l hh) e2_fz)) (e2_fa ein_19 (e2_fa ein_20 (e2_fa ein_60 e2_fz))) (by decide) co_a46 fun M d _ hC hcall p e R s m args below meth c Q D cA A ads r0 ha hl0 => ?_
  have L_0 : e2_gdM M p l e R s m args below meth c Q D cA A ads r0 66 al_a46_0 [] E_a46_0 h_a46_0 := by
    refine e2_indL (u := 3) (j := 5) (lo := 2147483648) (hi := 2147483678) (b := 3) (dd := 0) hl0 (by decide) rfl rfl (Or.inr ⟨rfl, rfl⟩) rfl ci_a46_0 cj_a46_0 ?_
    intro r_0 k_0 hk_0 hp_0 hs_0 hn_0
    have hl_0 : r_0.length ≤ 4 := hs_0.len rfl
    have ha_0 := ha.ext hp_0
    exact e2_fromM hen ha_0 hcall (e2_cutA_ok (e2_fa (fun al st E h hc => hn_0 al st E h hc) e2_fz)) (hC []) (X := e2x_59) ex2_59 66 ck_a46_0
  have EN_0 := e2_entL (u := 3) (j := 5) (lo := 2147483648) (hi := 2147483678) hl0 rfl rfl rfl ci_a46_0 cj_a46_0 L_0
  exact e2_from hen ha hcall (e2_cutA_ok (e2_fa (fun al st E h hc => EN_0 al st E h hc) e2_fz)) (hC []) (X := e2x_59) ex2_59 0 ck_a46_e
/-! a47 X3_parseNot -/
def as_a47 : List ev_V := [(2, 33, 0), (2, 27, 0), (0, 7, 0)]
def E_a47 : e2_E := [(2147483648, 2147583648, 0, 0), (2147483652, 2147483668, 1, 0), (2147483648, 2147485248, 2, 0)]
def an636 : e2_Q7 := (an598, an275)
def an637 : e2_Q8 := (an269, an636)
noncomputable def f_a47 : ev_H := (an637 : e2_Q8)
noncomputable def q_a47_0 : ev_H := (an637 : e2_Q8)
noncomputable def rs_a47 : e2_Rs := [((0, 0, 0), q_a47_0)]
noncomputable def s_a47 : e2_Sm := (61, as_a47, E_a47, f_a47, rs_a47)
noncomputable def S_a47 : List e2_Sm := []
noncomputable def I_a47 : List e2_In := [(43, 2, e2x_43), (44, 3, e2x_44)]
set_option maxRecDepth 1000000 in
theorem ck_a47 : e2_run (e2_cal S_a47 I_a47 4000 2) (e2_fin rs_a47) e2x_61 (fun _ => false) (fun _ _ _ _ _ => false) 4000 (e2_seek e2x_61 0) (e2_al 3 as_a47) [] E_a47 f_a47 = true := by decide +kernel
set_option maxRecDepth 1000000 in
theorem co_a47 : e2_okSB E_a47.length as_a47 f_a47 rs_a47 = true := by decide +kernel
theorem cs_a47 (hen : en_ok) (l : Launch) : e2_smOk l 3 s_a47 := e2_con0 (H := 0) (n := 2) (C := evd_61) (S := S_a47) (I := I_a47) (fuel := 4000) [] hen ei_61 e2_fz (e2_fa ein_43 (e2_fa ein_44 e2_fz)) (by decide) co_a47 ex2_61 ck_a47
/-! a48 X3_parseLevel -/
def as_a48 : List ev_V := [(2, 33, 0), (2, 27, 0), (0, 2, 0), (0, 7, 0)]
def E_a48 : e2_E := [(2147483648, 2147583648, 0, 0), (2147483652, 2147483668, 1, 0), (2147483648, 2147485248, 2, 0)]
noncomputable def f_a48 : ev_H := (an635 : e2_Q8)
noncomputable def q_a48_0 : ev_H := (an635 : e2_Q8)
noncomputable def rs_a48 : e2_Rs := [((11, 2147483648, 2147483649), q_a48_0)]
noncomputable def s_a48 : e2_Sm := (59, as_a48, E_a48, f_a48, rs_a48)
noncomputable def S_a48 : List e2_Sm := [s_a38, s_a46, s_a47]
noncomputable def I_a48 : List e2_In := [(19, 2, e2x_19), (20, 2, e2x_20), (60, 1, e2x_60)]
set_option maxRecDepth 1000000 in
theorem co_a48 : e2_okSB E_a48.length as_a48 f_a48 rs_a48 = true := by decide +kernel
def al_a48_0 : List ev_V := [(2, 33, 0), (2, 27, 0), (0, 2, 0), (0, 7, 0), (0, 1, 0), (1, 3, 4294967296), (9, 0, 0)]
def E_a48_0 : e2_E := [(2147483648, 2147583648, 0, 0), (2147483652, 2147483668, 1, 0), (2147483648, 2147485248, 2, 0), (2147483648, 2147483649, 3, 0)]
noncomputable def h_a48_0 : ev_H := (an635 : e2_Q8)
noncomputable def cl_a48_e : List (Nat × e2_S) := [(66, e2_cutL (al_a48_0.set 5 (11, 2147483648, 2147483649)) 3 (E_a48_0.take 3) h_a48_0)]
set_option maxRecDepth 1000000 in
theorem ck_a48_e : e2_run (e2_cal S_a48 I_a48 4000 2) (e2_fin rs_a48) e2x_59 (e2_bpL cl_a48_e) (e2_cutA cl_a48_e) 4000 (e2_seek e2x_59 0) (e2_al 7 as_a48) [] E_a48 f_a48 = true := by decide +kernel
noncomputable def cl_a48_0 : List (Nat × e2_S) := [(66, e2_cutL (al_a48_0.set 5 (13, 11, 2147483649)) 3 (E_a48_0.take 3) h_a48_0)]
set_option maxRecDepth 1000000 in
theorem ck_a48_0 : e2_runM (e2_cal S_a48 I_a48 4000 2) (e2_fin rs_a48) e2x_59 (e2_bpL cl_a48_0) (e2_cutA cl_a48_0) 4000 (e2_seek e2x_59 66) al_a48_0 [] E_a48_0 h_a48_0 = true := by decide +kernel
set_option maxRecDepth 1000000 in
theorem ci_a48_0 : e2_idl 3 (al_a48_0.set 5 (9, 0, 0)) = true := by decide +kernel
set_option maxRecDepth 1000000 in
theorem cj_a48_0 : e2_idh 3 8 h_a48_0 = true := by decide +kernel
theorem cs_a48 (hen : en_ok) (l : Launch) (hh : e2_hand_a l) : e2_smOk l 75 s_a48 := by
  refine e2_conG (H := 72) (n := 2) (C := evd_59) (S := S_a48) (I := I_a48) (fuel := 4000) hen ei_59 (e2_fa ((cs_a38 hen l hh).mono (by decide)) (e2_fa (cs_a46 hen l hh) (e2_fa ((cs_a47 hen l).mono (by decide)) e2_fz))) (e2_fa ein_19 (e2_fa ein_20 (e2_fa ein_60 e2_fz))) (by decide) co_a48 fun M d _ hC hcall p e R s m args below meth c Q D cA A ads r0 ha hl0 => ?_
  have L_0 : e2_gdM M p l e R s m args below meth c Q D cA A ads r0 66 al_a48_0 [] E_a48_0 h_a48_0 := by
    refine e2_indL (u := 3) (j := 5) (lo := 2147483648) (hi := 2147483649) (b := 3) (dd := 0) hl0 (by decide) rfl rfl (Or.inr ⟨rfl, rfl⟩) rfl ci_a48_0 cj_a48_0 ?_
    intro r_0 k_0 hk_0 hp_0 hs_0 hn_0
    have hl_0 : r_0.length ≤ 4 := hs_0.len rfl
    have ha_0 := ha.ext hp_0
    exact e2_fromM hen ha_0 hcall (e2_cutA_ok (e2_fa (fun al st E h hc => hn_0 al st E h hc) e2_fz)) (hC []) (X := e2x_59) ex2_59 66 ck_a48_0
  have EN_0 := e2_entL (u := 3) (j := 5) (lo := 2147483648) (hi := 2147483649) hl0 rfl rfl rfl ci_a48_0 cj_a48_0 L_0
  exact e2_from hen ha hcall (e2_cutA_ok (e2_fa (fun al st E h hc => EN_0 al st E h hc) e2_fz)) (hC []) (X := e2x_59) ex2_59 0 ck_a48_e
/-! a49 X3_parseLevel -/
def as_a49 : List ev_V := [(2, 33, 0), (2, 27, 0), (0, 1, 0), (0, 7, 0)]
def E_a49 : e2_E := [(2147483648, 2147583648, 0, 0), (2147483652, 2147483668, 1, 0), (2147483648, 2147485248, 2, 0)]
noncomputable def f_a49 : ev_H := (an635 : e2_Q8)
noncomputable def q_a49_0 : ev_H := (an635 : e2_Q8)
noncomputable def rs_a49 : e2_Rs := [((11, 2147483648, 2147483649), q_a49_0)]
noncomputable def s_a49 : e2_Sm := (59, as_a49, E_a49, f_a49, rs_a49)
noncomputable def S_a49 : List e2_Sm := [s_a38, s_a48]
noncomputable def I_a49 : List e2_In := [(19, 2, e2x_19), (20, 2, e2x_20), (60, 1, e2x_60)]
set_option maxRecDepth 1000000 in
theorem co_a49 : e2_okSB E_a49.length as_a49 f_a49 rs_a49 = true := by decide +kernel
def al_a49_0 : List ev_V := [(2, 33, 0), (2, 27, 0), (0, 1, 0), (0, 7, 0), (0, 30, 0), (1, 3, 4294967296), (9, 0, 0)]
def E_a49_0 : e2_E := [(2147483648, 2147583648, 0, 0), (2147483652, 2147483668, 1, 0), (2147483648, 2147485248, 2, 0), (2147483648, 2147483678, 3, 0)]
noncomputable def h_a49_0 : ev_H := (an635 : e2_Q8)
noncomputable def cl_a49_e : List (Nat × e2_S) := [(66, e2_cutL (al_a49_0.set 5 (11, 2147483648, 2147483678)) 3 (E_a49_0.take 3) h_a49_0)]
set_option maxRecDepth 1000000 in
theorem ck_a49_e : e2_run (e2_cal S_a49 I_a49 4000 2) (e2_fin rs_a49) e2x_59 (e2_bpL cl_a49_e) (e2_cutA cl_a49_e) 4000 (e2_seek e2x_59 0) (e2_al 7 as_a49) [] E_a49 f_a49 = true := by decide +kernel
noncomputable def cl_a49_0 : List (Nat × e2_S) := [(66, e2_cutL (al_a49_0.set 5 (13, 11, 2147483678)) 3 (E_a49_0.take 3) h_a49_0)]
set_option maxRecDepth 1000000 in
theorem ck_a49_0 : e2_runM (e2_cal S_a49 I_a49 4000 2) (e2_fin rs_a49) e2x_59 (e2_bpL cl_a49_0) (e2_cutA cl_a49_0) 4000 (e2_seek e2x_59 66) al_a49_0 [] E_a49_0 h_a49_0 = true := by decide +kernel
set_option maxRecDepth 1000000 in
theorem ci_a49_0 : e2_idl 3 (al_a49_0.set 5 (9, 0, 0)) = true := by decide +kernel
set_option maxRecDepth 1000000 in
theorem cj_a49_0 : e2_idh 3 8 h_a49_0 = true := by decide +kernel
theorem cs_a49 (hen : en_ok) (l : Launch) (hh : e2_hand_a l) : e2_smOk l 78 s_a49 := by
  refine e2_conG (H := 75) (n := 2) (C := evd_59) (S := S_a49) (I := I_a49) (fuel := 4000) hen ei_59 (e2_fa ((cs_a38 hen l hh).mono (by decide)) (e2_fa (cs_a48 hen l hh) e2_fz)) (e2_fa ein_19 (e2_fa ein_20 (e2_fa ein_60 e2_fz))) (by decide) co_a49 fun M d _ hC hcall p e R s m args below meth c Q D cA A ads r0 ha hl0 => ?_
  have L_0 : e2_gdM M p l e R s m args below meth c Q D cA A ads r0 66 al_a49_0 [] E_a49_0 h_a49_0 := by
    refine e2_indL (u := 3) (j := 5) (lo := 2147483648) (hi := 2147483678) (b := 3) (dd := 0) hl0 (by decide) rfl rfl (Or.inr ⟨rfl, rfl⟩) rfl ci_a49_0 cj_a49_0 ?_
    intro r_0 k_0 hk_0 hp_0 hs_0 hn_0
    have hl_0 : r_0.length ≤ 4 := hs_0.len rfl
    have ha_0 := ha.ext hp_0
    exact e2_fromM hen ha_0 hcall (e2_cutA_ok (e2_fa (fun al st E h hc => hn_0 al st E h hc) e2_fz)) (hC []) (X := e2x_59) ex2_59 66 ck_a49_0
  have EN_0 := e2_entL (u := 3) (j := 5) (lo := 2147483648) (hi := 2147483678) hl0 rfl rfl rfl ci_a49_0 cj_a49_0 L_0
  exact e2_from hen ha hcall (e2_cutA_ok (e2_fa (fun al st E h hc => EN_0 al st E h hc) e2_fz)) (hC []) (X := e2x_59) ex2_59 0 ck_a49_e
/-! a50 X3_parseLevel -/
def as_a50 : List ev_V := [(2, 33, 0), (2, 27, 0), (0, 0, 0), (0, 7, 0)]
def E_a50 : e2_E := [(2147483648, 2147583648, 0, 0), (2147483652, 2147483668, 1, 0), (2147483648, 2147485248, 2, 0)]
noncomputable def f_a50 : ev_H := (an635 : e2_Q8)
noncomputable def q_a50_0 : ev_H := (an635 : e2_Q8)
noncomputable def rs_a50 : e2_Rs := [((11, 2147483648, 2147483649), q_a50_0)]
noncomputable def s_a50 : e2_Sm := (59, as_a50, E_a50, f_a50, rs_a50)
noncomputable def S_a50 : List e2_Sm := [s_a38, s_a49]
noncomputable def I_a50 : List e2_In := [(19, 2, e2x_19), (20, 2, e2x_20), (60, 1, e2x_60)]
set_option maxRecDepth 1000000 in
theorem co_a50 : e2_okSB E_a50.length as_a50 f_a50 rs_a50 = true := by decide +kernel
def al_a50_0 : List ev_V := [(2, 33, 0), (2, 27, 0), (0, 0, 0), (0, 7, 0), (0, 30, 0), (1, 3, 4294967296), (9, 0, 0)]
def E_a50_0 : e2_E := [(2147483648, 2147583648, 0, 0), (2147483652, 2147483668, 1, 0), (2147483648, 2147485248, 2, 0), (2147483648, 2147483678, 3, 0)]
noncomputable def h_a50_0 : ev_H := (an635 : e2_Q8)
noncomputable def cl_a50_e : List (Nat × e2_S) := [(66, e2_cutL (al_a50_0.set 5 (11, 2147483648, 2147483678)) 3 (E_a50_0.take 3) h_a50_0)]
set_option maxRecDepth 1000000 in
theorem ck_a50_e : e2_run (e2_cal S_a50 I_a50 4000 2) (e2_fin rs_a50) e2x_59 (e2_bpL cl_a50_e) (e2_cutA cl_a50_e) 4000 (e2_seek e2x_59 0) (e2_al 7 as_a50) [] E_a50 f_a50 = true := by decide +kernel
noncomputable def cl_a50_0 : List (Nat × e2_S) := [(66, e2_cutL (al_a50_0.set 5 (13, 11, 2147483678)) 3 (E_a50_0.take 3) h_a50_0)]
set_option maxRecDepth 1000000 in
theorem ck_a50_0 : e2_runM (e2_cal S_a50 I_a50 4000 2) (e2_fin rs_a50) e2x_59 (e2_bpL cl_a50_0) (e2_cutA cl_a50_0) 4000 (e2_seek e2x_59 66) al_a50_0 [] E_a50_0 h_a50_0 = true := by decide +kernel
set_option maxRecDepth 1000000 in
theorem ci_a50_0 : e2_idl 3 (al_a50_0.set 5 (9, 0, 0)) = true := by decide +kernel
set_option maxRecDepth 1000000 in
theorem cj_a50_0 : e2_idh 3 8 h_a50_0 = true := by decide +kernel
theorem cs_a50 (hen : en_ok) (l : Launch) (hh : e2_hand_a l) : e2_smOk l 81 s_a50 := by
  refine e2_conG (H := 78) (n := 2) (C := evd_59) (S := S_a50) (I := I_a50) (fuel := 4000) hen ei_59 (e2_fa ((cs_a38 hen l hh).mono (by decide)) (e2_fa (cs_a49 hen l hh) e2_fz)) (e2_fa ein_19 (e2_fa ein_20 (e2_fa ein_60 e2_fz))) (by decide) co_a50 fun M d _ hC hcall p e R s m args below meth c Q D cA A ads r0 ha hl0 => ?_
  have L_0 : e2_gdM M p l e R s m args below meth c Q D cA A ads r0 66 al_a50_0 [] E_a50_0 h_a50_0 := by
    refine e2_indL (u := 3) (j := 5) (lo := 2147483648) (hi := 2147483678) (b := 3) (dd := 0) hl0 (by decide) rfl rfl (Or.inr ⟨rfl, rfl⟩) rfl ci_a50_0 cj_a50_0 ?_
    intro r_0 k_0 hk_0 hp_0 hs_0 hn_0
    have hl_0 : r_0.length ≤ 4 := hs_0.len rfl
    have ha_0 := ha.ext hp_0
    exact e2_fromM hen ha_0 hcall (e2_cutA_ok (e2_fa (fun al st E h hc => hn_0 al st E h hc) e2_fz)) (hC []) (X := e2x_59) ex2_59 66 ck_a50_0
  have EN_0 := e2_entL (u := 3) (j := 5) (lo := 2147483648) (hi := 2147483678) hl0 rfl rfl rfl ci_a50_0 cj_a50_0 L_0
  exact e2_from hen ha hcall (e2_cutA_ok (e2_fa (fun al st E h hc => EN_0 al st E h hc) e2_fz)) (hC []) (X := e2x_59) ex2_59 0 ck_a50_e
/-! a51 X3_parseUnit -/
def as_a51 : List ev_V := [(2, 33, 0), (2, 27, 0), (0, 6, 0)]
def E_a51 : e2_E := [(2147483648, 2147583648, 0, 0), (2147483652, 2147483668, 1, 0), (2147483648, 2147485248, 2, 0)]
noncomputable def f_a51 : ev_H := (an635 : e2_Q8)
noncomputable def q_a51_0 : ev_H := (an635 : e2_Q8)
noncomputable def rs_a51 : e2_Rs := [((11, 2147483648, 2147483649), q_a51_0)]
noncomputable def s_a51 : e2_Sm := (62, as_a51, E_a51, f_a51, rs_a51)
noncomputable def S_a51 : List e2_Sm := [s_a38, s_a39, s_a50]
noncomputable def I_a51 : List e2_In := [(18, 2, e2x_18), (19, 2, e2x_19), (20, 2, e2x_20), (43, 2, e2x_43), (44, 3, e2x_44)]
set_option maxRecDepth 1000000 in
theorem ck_a51 : e2_run (e2_cal S_a51 I_a51 4000 2) (e2_fin rs_a51) e2x_62 (fun _ => false) (fun _ _ _ _ _ => false) 4000 (e2_seek e2x_62 0) (e2_al 7 as_a51) [] E_a51 f_a51 = true := by decide +kernel
set_option maxRecDepth 1000000 in
theorem co_a51 : e2_okSB E_a51.length as_a51 f_a51 rs_a51 = true := by decide +kernel
theorem cs_a51 (hen : en_ok) (l : Launch) (hh : e2_hand_a l) : e2_smOk l 84 s_a51 := e2_con0 (H := 81) (n := 2) (C := evd_62) (S := S_a51) (I := I_a51) (fuel := 4000) [] hen ei_62 (e2_fa ((cs_a38 hen l hh).mono (by decide)) (e2_fa ((cs_a39 hen l hh).mono (by decide)) (e2_fa (cs_a50 hen l hh) e2_fz))) (e2_fa ein_18 (e2_fa ein_19 (e2_fa ein_20 (e2_fa ein_43 (e2_fa ein_44 e2_fz))))) (by decide) co_a51 ex2_62 ck_a51
/-! a52 X3_parseLevel -/
def as_a52 : List ev_V := [(2, 33, 0), (2, 27, 0), (0, 5, 0), (0, 6, 0)]
def E_a52 : e2_E := [(2147483648, 2147583648, 0, 0), (2147483652, 2147483668, 1, 0), (2147483648, 2147485248, 2, 0)]
noncomputable def f_a52 : ev_H := (an635 : e2_Q8)
noncomputable def q_a52_0 : ev_H := (an635 : e2_Q8)
noncomputable def rs_a52 : e2_Rs := [((11, 2147483648, 2147483649), q_a52_0)]
noncomputable def s_a52 : e2_Sm := (59, as_a52, E_a52, f_a52, rs_a52)
noncomputable def S_a52 : List e2_Sm := [s_a51]
noncomputable def I_a52 : List e2_In := []
set_option maxRecDepth 1000000 in
theorem ck_a52 : e2_run (e2_cal S_a52 I_a52 4000 0) (e2_fin rs_a52) e2x_59 (fun _ => false) (fun _ _ _ _ _ => false) 4000 (e2_seek e2x_59 0) (e2_al 7 as_a52) [] E_a52 f_a52 = true := by decide +kernel
set_option maxRecDepth 1000000 in
theorem co_a52 : e2_okSB E_a52.length as_a52 f_a52 rs_a52 = true := by decide +kernel
theorem cs_a52 (hen : en_ok) (l : Launch) (hh : e2_hand_a l) : e2_smOk l 85 s_a52 := e2_con0 (H := 84) (n := 0) (C := evd_59) (S := S_a52) (I := I_a52) (fuel := 4000) [] hen ei_59 (e2_fa (cs_a51 hen l hh) e2_fz) e2_fz (by decide) co_a52 ex2_59 ck_a52
/-! a53 X3_parseLevel -/
def as_a53 : List ev_V := [(2, 33, 0), (2, 27, 0), (0, 4, 0), (0, 6, 0)]
def E_a53 : e2_E := [(2147483648, 2147583648, 0, 0), (2147483652, 2147483668, 1, 0), (2147483648, 2147485248, 2, 0)]
noncomputable def f_a53 : ev_H := (an635 : e2_Q8)
noncomputable def q_a53_0 : ev_H := (an635 : e2_Q8)
noncomputable def rs_a53 : e2_Rs := [((11, 2147483648, 2147483649), q_a53_0)]
noncomputable def s_a53 : e2_Sm := (59, as_a53, E_a53, f_a53, rs_a53)
noncomputable def S_a53 : List e2_Sm := [s_a38, s_a52]
noncomputable def I_a53 : List e2_In := [(19, 2, e2x_19), (20, 2, e2x_20), (60, 1, e2x_60)]
set_option maxRecDepth 1000000 in
theorem co_a53 : e2_okSB E_a53.length as_a53 f_a53 rs_a53 = true := by decide +kernel
def al_a53_0 : List ev_V := [(2, 33, 0), (2, 27, 0), (0, 4, 0), (0, 6, 0), (0, 30, 0), (1, 3, 4294967296), (9, 0, 0)]
def E_a53_0 : e2_E := [(2147483648, 2147583648, 0, 0), (2147483652, 2147483668, 1, 0), (2147483648, 2147485248, 2, 0), (2147483648, 2147483678, 3, 0)]
noncomputable def h_a53_0 : ev_H := (an635 : e2_Q8)
noncomputable def cl_a53_e : List (Nat × e2_S) := [(66, e2_cutL (al_a53_0.set 5 (11, 2147483648, 2147483678)) 3 (E_a53_0.take 3) h_a53_0)]
set_option maxRecDepth 1000000 in
theorem ck_a53_e : e2_run (e2_cal S_a53 I_a53 4000 2) (e2_fin rs_a53) e2x_59 (e2_bpL cl_a53_e) (e2_cutA cl_a53_e) 4000 (e2_seek e2x_59 0) (e2_al 7 as_a53) [] E_a53 f_a53 = true := by decide +kernel
noncomputable def cl_a53_0 : List (Nat × e2_S) := [(66, e2_cutL (al_a53_0.set 5 (13, 11, 2147483678)) 3 (E_a53_0.take 3) h_a53_0)]
set_option maxRecDepth 1000000 in
theorem ck_a53_0 : e2_runM (e2_cal S_a53 I_a53 4000 2) (e2_fin rs_a53) e2x_59 (e2_bpL cl_a53_0) (e2_cutA cl_a53_0) 4000 (e2_seek e2x_59 66) al_a53_0 [] E_a53_0 h_a53_0 = true := by decide +kernel
set_option maxRecDepth 1000000 in
theorem ci_a53_0 : e2_idl 3 (al_a53_0.set 5 (9, 0, 0)) = true := by decide +kernel
set_option maxRecDepth 1000000 in
theorem cj_a53_0 : e2_idh 3 8 h_a53_0 = true := by decide +kernel
theorem cs_a53 (hen : en_ok) (l : Launch) (hh : e2_hand_a l) : e2_smOk l 88 s_a53 := by
  refine e2_conG (H := 85) (n := 2) (C := evd_59) (S := S_a53) (I := I_a53) (fuel := 4000) hen ei_59 (e2_fa ((cs_a38 hen l hh).mono (by decide)) (e2_fa (cs_a52 hen l hh) e2_fz)) (e2_fa ein_19 (e2_fa ein_20 (e2_fa ein_60 e2_fz))) (by decide) co_a53 fun M d _ hC hcall p e R s m args below meth c Q D cA A ads r0 ha hl0 => ?_
  have L_0 : e2_gdM M p l e R s m args below meth c Q D cA A ads r0 66 al_a53_0 [] E_a53_0 h_a53_0 := by
    refine e2_indL (u := 3) (j := 5) (lo := 2147483648) (hi := 2147483678) (b := 3) (dd := 0) hl0 (by decide) rfl rfl (Or.inr ⟨rfl, rfl⟩) rfl ci_a53_0 cj_a53_0 ?_
    intro r_0 k_0 hk_0 hp_0 hs_0 hn_0
    have hl_0 : r_0.length ≤ 4 := hs_0.len rfl
    have ha_0 := ha.ext hp_0
    exact e2_fromM hen ha_0 hcall (e2_cutA_ok (e2_fa (fun al st E h hc => hn_0 al st E h hc) e2_fz)) (hC []) (X := e2x_59) ex2_59 66 ck_a53_0
  have EN_0 := e2_entL (u := 3) (j := 5) (lo := 2147483648) (hi := 2147483678) hl0 rfl rfl rfl ci_a53_0 cj_a53_0 L_0
  exact e2_from hen ha hcall (e2_cutA_ok (e2_fa (fun al st E h hc => EN_0 al st E h hc) e2_fz)) (hC []) (X := e2x_59) ex2_59 0 ck_a53_e
/-! a54 X3_parseLevel -/
def as_a54 : List ev_V := [(2, 33, 0), (2, 27, 0), (0, 3, 0), (0, 6, 0)]
def E_a54 : e2_E := [(2147483648, 2147583648, 0, 0), (2147483652, 2147483668, 1, 0), (2147483648, 2147485248, 2, 0)]
noncomputable def f_a54 : ev_H := (an635 : e2_Q8)
noncomputable def q_a54_0 : ev_H := (an635 : e2_Q8)
noncomputable def rs_a54 : e2_Rs := [((11, 2147483648, 2147483649), q_a54_0)]
noncomputable def s_a54 : e2_Sm := (59, as_a54, E_a54, f_a54, rs_a54)
noncomputable def S_a54 : List e2_Sm := [s_a38, s_a53]
noncomputable def I_a54 : List e2_In := [(19, 2, e2x_19), (20, 2, e2x_20), (60, 1, e2x_60)]
set_option maxRecDepth 1000000 in
theorem co_a54 : e2_okSB E_a54.length as_a54 f_a54 rs_a54 = true := by decide +kernel
def al_a54_0 : List ev_V := [(2, 33, 0), (2, 27, 0), (0, 3, 0), (0, 6, 0), (0, 30, 0), (1, 3, 4294967296), (9, 0, 0)]
def E_a54_0 : e2_E := [(2147483648, 2147583648, 0, 0), (2147483652, 2147483668, 1, 0), (2147483648, 2147485248, 2, 0), (2147483648, 2147483678, 3, 0)]
noncomputable def h_a54_0 : ev_H := (an635 : e2_Q8)
noncomputable def cl_a54_e : List (Nat × e2_S) := [(66, e2_cutL (al_a54_0.set 5 (11, 2147483648, 2147483678)) 3 (E_a54_0.take 3) h_a54_0)]
set_option maxRecDepth 1000000 in
theorem ck_a54_e : e2_run (e2_cal S_a54 I_a54 4000 2) (e2_fin rs_a54) e2x_59 (e2_bpL cl_a54_e) (e2_cutA cl_a54_e) 4000 (e2_seek e2x_59 0) (e2_al 7 as_a54) [] E_a54 f_a54 = true := by decide +kernel
noncomputable def cl_a54_0 : List (Nat × e2_S) := [(66, e2_cutL (al_a54_0.set 5 (13, 11, 2147483678)) 3 (E_a54_0.take 3) h_a54_0)]
set_option maxRecDepth 1000000 in
theorem ck_a54_0 : e2_runM (e2_cal S_a54 I_a54 4000 2) (e2_fin rs_a54) e2x_59 (e2_bpL cl_a54_0) (e2_cutA cl_a54_0) 4000 (e2_seek e2x_59 66) al_a54_0 [] E_a54_0 h_a54_0 = true := by decide +kernel
set_option maxRecDepth 1000000 in
theorem ci_a54_0 : e2_idl 3 (al_a54_0.set 5 (9, 0, 0)) = true := by decide +kernel
set_option maxRecDepth 1000000 in
theorem cj_a54_0 : e2_idh 3 8 h_a54_0 = true := by decide +kernel
theorem cs_a54 (hen : en_ok) (l : Launch) (hh : e2_hand_a l) : e2_smOk l 91 s_a54 := by
  refine e2_conG (H := 88) (n := 2) (C := evd_59) (S := S_a54) (I := I_a54) (fuel := 4000) hen ei_59 (e2_fa ((cs_a38 hen l hh).mono (by decide)) (e2_fa (cs_a53 hen l hh) e2_fz)) (e2_fa ein_19 (e2_fa ein_20 (e2_fa ein_60 e2_fz))) (by decide) co_a54 fun M d _ hC hcall p e R s m args below meth c Q D cA A ads r0 ha hl0 => ?_
  have L_0 : e2_gdM M p l e R s m args below meth c Q D cA A ads r0 66 al_a54_0 [] E_a54_0 h_a54_0 := by
    refine e2_indL (u := 3) (j := 5) (lo := 2147483648) (hi := 2147483678) (b := 3) (dd := 0) hl0 (by decide) rfl rfl (Or.inr ⟨rfl, rfl⟩) rfl ci_a54_0 cj_a54_0 ?_
    intro r_0 k_0 hk_0 hp_0 hs_0 hn_0
    have hl_0 : r_0.length ≤ 4 := hs_0.len rfl
    have ha_0 := ha.ext hp_0
    exact e2_fromM hen ha_0 hcall (e2_cutA_ok (e2_fa (fun al st E h hc => hn_0 al st E h hc) e2_fz)) (hC []) (X := e2x_59) ex2_59 66 ck_a54_0
  have EN_0 := e2_entL (u := 3) (j := 5) (lo := 2147483648) (hi := 2147483678) hl0 rfl rfl rfl ci_a54_0 cj_a54_0 L_0
  exact e2_from hen ha hcall (e2_cutA_ok (e2_fa (fun al st E h hc => EN_0 al st E h hc) e2_fz)) (hC []) (X := e2x_59) ex2_59 0 ck_a54_e
/-! a55 X3_parseNot -/
def as_a55 : List ev_V := [(2, 33, 0), (2, 27, 0), (0, 6, 0)]
def E_a55 : e2_E := [(2147483648, 2147583648, 0, 0), (2147483652, 2147483668, 1, 0), (2147483648, 2147485248, 2, 0)]
noncomputable def f_a55 : ev_H := (an635 : e2_Q8)
noncomputable def q_a55_0 : ev_H := (an635 : e2_Q8)
noncomputable def rs_a55 : e2_Rs := [((11, 2147483648, 2147483649), q_a55_0)]
noncomputable def s_a55 : e2_Sm := (61, as_a55, E_a55, f_a55, rs_a55)
noncomputable def S_a55 : List e2_Sm := [s_a38, s_a48]
noncomputable def I_a55 : List e2_In := [(19, 2, e2x_19), (20, 2, e2x_20)]
set_option maxRecDepth 1000000 in
theorem ck_a55 : e2_run (e2_cal S_a55 I_a55 4000 2) (e2_fin rs_a55) e2x_61 (fun _ => false) (fun _ _ _ _ _ => false) 4000 (e2_seek e2x_61 0) (e2_al 3 as_a55) [] E_a55 f_a55 = true := by decide +kernel
set_option maxRecDepth 1000000 in
theorem co_a55 : e2_okSB E_a55.length as_a55 f_a55 rs_a55 = true := by decide +kernel
theorem cs_a55 (hen : en_ok) (l : Launch) (hh : e2_hand_a l) : e2_smOk l 78 s_a55 := e2_con0 (H := 75) (n := 2) (C := evd_61) (S := S_a55) (I := I_a55) (fuel := 4000) [] hen ei_61 (e2_fa ((cs_a38 hen l hh).mono (by decide)) (e2_fa (cs_a48 hen l hh) e2_fz)) (e2_fa ein_19 (e2_fa ein_20 e2_fz)) (by decide) co_a55 ex2_61 ck_a55
/-! a56 X3_parseLevel -/
def as_a56 : List ev_V := [(2, 33, 0), (2, 27, 0), (0, 2, 0), (0, 6, 0)]
def E_a56 : e2_E := [(2147483648, 2147583648, 0, 0), (2147483652, 2147483668, 1, 0), (2147483648, 2147485248, 2, 0)]
noncomputable def f_a56 : ev_H := (an635 : e2_Q8)
noncomputable def q_a56_0 : ev_H := (an635 : e2_Q8)
noncomputable def rs_a56 : e2_Rs := [((11, 2147483648, 2147483649), q_a56_0)]
noncomputable def s_a56 : e2_Sm := (59, as_a56, E_a56, f_a56, rs_a56)
noncomputable def S_a56 : List e2_Sm := [s_a38, s_a54, s_a55]
noncomputable def I_a56 : List e2_In := [(19, 2, e2x_19), (20, 2, e2x_20), (60, 1, e2x_60)]
set_option maxRecDepth 1000000 in
theorem co_a56 : e2_okSB E_a56.length as_a56 f_a56 rs_a56 = true := by decide +kernel
def al_a56_0 : List ev_V := [(2, 33, 0), (2, 27, 0), (0, 2, 0), (0, 6, 0), (0, 1, 0), (1, 3, 4294967296), (9, 0, 0)]
def E_a56_0 : e2_E := [(2147483648, 2147583648, 0, 0), (2147483652, 2147483668, 1, 0), (2147483648, 2147485248, 2, 0), (2147483648, 2147483649, 3, 0)]
noncomputable def h_a56_0 : ev_H := (an635 : e2_Q8)
noncomputable def cl_a56_e : List (Nat × e2_S) := [(66, e2_cutL (al_a56_0.set 5 (11, 2147483648, 2147483649)) 3 (E_a56_0.take 3) h_a56_0)]
set_option maxRecDepth 1000000 in
theorem ck_a56_e : e2_run (e2_cal S_a56 I_a56 4000 2) (e2_fin rs_a56) e2x_59 (e2_bpL cl_a56_e) (e2_cutA cl_a56_e) 4000 (e2_seek e2x_59 0) (e2_al 7 as_a56) [] E_a56 f_a56 = true := by decide +kernel
noncomputable def cl_a56_0 : List (Nat × e2_S) := [(66, e2_cutL (al_a56_0.set 5 (13, 11, 2147483649)) 3 (E_a56_0.take 3) h_a56_0)]
set_option maxRecDepth 1000000 in
theorem ck_a56_0 : e2_runM (e2_cal S_a56 I_a56 4000 2) (e2_fin rs_a56) e2x_59 (e2_bpL cl_a56_0) (e2_cutA cl_a56_0) 4000 (e2_seek e2x_59 66) al_a56_0 [] E_a56_0 h_a56_0 = true := by decide +kernel
set_option maxRecDepth 1000000 in
theorem ci_a56_0 : e2_idl 3 (al_a56_0.set 5 (9, 0, 0)) = true := by decide +kernel
set_option maxRecDepth 1000000 in
theorem cj_a56_0 : e2_idh 3 8 h_a56_0 = true := by decide +kernel
theorem cs_a56 (hen : en_ok) (l : Launch) (hh : e2_hand_a l) : e2_smOk l 94 s_a56 := by
  refine e2_conG (H := 91) (n := 2) (C := evd_59) (S := S_a56) (I := I_a56) (fuel := 4000) hen ei_59 (e2_fa ((cs_a38 hen l hh).mono (by decide)) (e2_fa (cs_a54 hen l hh) (e2_fa ((cs_a55 hen l hh).mono (by decide)) e2_fz))) (e2_fa ein_19 (e2_fa ein_20 (e2_fa ein_60 e2_fz))) (by decide) co_a56 fun M d _ hC hcall p e R s m args below meth c Q D cA A ads r0 ha hl0 => ?_
  have L_0 : e2_gdM M p l e R s m args below meth c Q D cA A ads r0 66 al_a56_0 [] E_a56_0 h_a56_0 := by
    refine e2_indL (u := 3) (j := 5) (lo := 2147483648) (hi := 2147483649) (b := 3) (dd := 0) hl0 (by decide) rfl rfl (Or.inr ⟨rfl, rfl⟩) rfl ci_a56_0 cj_a56_0 ?_
    intro r_0 k_0 hk_0 hp_0 hs_0 hn_0
    have hl_0 : r_0.length ≤ 4 := hs_0.len rfl
    have ha_0 := ha.ext hp_0
    exact e2_fromM hen ha_0 hcall (e2_cutA_ok (e2_fa (fun al st E h hc => hn_0 al st E h hc) e2_fz)) (hC []) (X := e2x_59) ex2_59 66 ck_a56_0
  have EN_0 := e2_entL (u := 3) (j := 5) (lo := 2147483648) (hi := 2147483649) hl0 rfl rfl rfl ci_a56_0 cj_a56_0 L_0
  exact e2_from hen ha hcall (e2_cutA_ok (e2_fa (fun al st E h hc => EN_0 al st E h hc) e2_fz)) (hC []) (X := e2x_59) ex2_59 0 ck_a56_e
/-! a57 X3_parseLevel -/
def as_a57 : List ev_V := [(2, 33, 0), (2, 27, 0), (0, 1, 0), (0, 6, 0)]
def E_a57 : e2_E := [(2147483648, 2147583648, 0, 0), (2147483652, 2147483668, 1, 0), (2147483648, 2147485248, 2, 0)]
noncomputable def f_a57 : ev_H := (an635 : e2_Q8)
noncomputable def q_a57_0 : ev_H := (an635 : e2_Q8)
noncomputable def rs_a57 : e2_Rs := [((11, 2147483648, 2147483649), q_a57_0)]
noncomputable def s_a57 : e2_Sm := (59, as_a57, E_a57, f_a57, rs_a57)
noncomputable def S_a57 : List e2_Sm := [s_a38, s_a56]
noncomputable def I_a57 : List e2_In := [(19, 2, e2x_19), (20, 2, e2x_20), (60, 1, e2x_60)]
set_option maxRecDepth 1000000 in
theorem co_a57 : e2_okSB E_a57.length as_a57 f_a57 rs_a57 = true := by decide +kernel
def al_a57_0 : List ev_V := [(2, 33, 0), (2, 27, 0), (0, 1, 0), (0, 6, 0), (0, 30, 0), (1, 3, 4294967296), (9, 0, 0)]
def E_a57_0 : e2_E := [(2147483648, 2147583648, 0, 0), (2147483652, 2147483668, 1, 0), (2147483648, 2147485248, 2, 0), (2147483648, 2147483678, 3, 0)]
noncomputable def h_a57_0 : ev_H := (an635 : e2_Q8)
noncomputable def cl_a57_e : List (Nat × e2_S) := [(66, e2_cutL (al_a57_0.set 5 (11, 2147483648, 2147483678)) 3 (E_a57_0.take 3) h_a57_0)]
set_option maxRecDepth 1000000 in
theorem ck_a57_e : e2_run (e2_cal S_a57 I_a57 4000 2) (e2_fin rs_a57) e2x_59 (e2_bpL cl_a57_e) (e2_cutA cl_a57_e) 4000 (e2_seek e2x_59 0) (e2_al 7 as_a57) [] E_a57 f_a57 = true := by decide +kernel
noncomputable def cl_a57_0 : List (Nat × e2_S) := [(66, e2_cutL (al_a57_0.set 5 (13, 11, 2147483678)) 3 (E_a57_0.take 3) h_a57_0)]
set_option maxRecDepth 1000000 in
theorem ck_a57_0 : e2_runM (e2_cal S_a57 I_a57 4000 2) (e2_fin rs_a57) e2x_59 (e2_bpL cl_a57_0) (e2_cutA cl_a57_0) 4000 (e2_seek e2x_59 66) al_a57_0 [] E_a57_0 h_a57_0 = true := by decide +kernel
set_option maxRecDepth 1000000 in
theorem ci_a57_0 : e2_idl 3 (al_a57_0.set 5 (9, 0, 0)) = true := by decide +kernel
set_option maxRecDepth 1000000 in
theorem cj_a57_0 : e2_idh 3 8 h_a57_0 = true := by decide +kernel
theorem cs_a57 (hen : en_ok) (l : Launch) (hh : e2_hand_a l) : e2_smOk l 97 s_a57 := by
  refine e2_conG (H := 94) (n := 2) (C := evd_59) (S := S_a57) (I := I_a57) (fuel := 4000) hen ei_59 (e2_fa ((cs_a38 hen l hh).mono (by decide)) (e2_fa (cs_a56 hen l hh) e2_fz)) (e2_fa ein_19 (e2_fa ein_20 (e2_fa ein_60 e2_fz))) (by decide) co_a57 fun M d _ hC hcall p e R s m args below meth c Q D cA A ads r0 ha hl0 => ?_
  have L_0 : e2_gdM M p l e R s m args below meth c Q D cA A ads r0 66 al_a57_0 [] E_a57_0 h_a57_0 := by
    refine e2_indL (u := 3) (j := 5) (lo := 2147483648) (hi := 2147483678) (b := 3) (dd := 0) hl0 (by decide) rfl rfl (Or.inr ⟨rfl, rfl⟩) rfl ci_a57_0 cj_a57_0 ?_
    intro r_0 k_0 hk_0 hp_0 hs_0 hn_0
    have hl_0 : r_0.length ≤ 4 := hs_0.len rfl
    have ha_0 := ha.ext hp_0
    exact e2_fromM hen ha_0 hcall (e2_cutA_ok (e2_fa (fun al st E h hc => hn_0 al st E h hc) e2_fz)) (hC []) (X := e2x_59) ex2_59 66 ck_a57_0
  have EN_0 := e2_entL (u := 3) (j := 5) (lo := 2147483648) (hi := 2147483678) hl0 rfl rfl rfl ci_a57_0 cj_a57_0 L_0
  exact e2_from hen ha hcall (e2_cutA_ok (e2_fa (fun al st E h hc => EN_0 al st E h hc) e2_fz)) (hC []) (X := e2x_59) ex2_59 0 ck_a57_e
/-! a58 X3_parseLevel -/
def as_a58 : List ev_V := [(2, 33, 0), (2, 27, 0), (0, 0, 0), (0, 6, 0)]
def E_a58 : e2_E := [(2147483648, 2147583648, 0, 0), (2147483652, 2147483668, 1, 0), (2147483648, 2147485248, 2, 0)]
noncomputable def f_a58 : ev_H := (an635 : e2_Q8)
noncomputable def q_a58_0 : ev_H := (an635 : e2_Q8)
noncomputable def rs_a58 : e2_Rs := [((11, 2147483648, 2147483649), q_a58_0)]
noncomputable def s_a58 : e2_Sm := (59, as_a58, E_a58, f_a58, rs_a58)
noncomputable def S_a58 : List e2_Sm := [s_a38, s_a57]
noncomputable def I_a58 : List e2_In := [(19, 2, e2x_19), (20, 2, e2x_20), (60, 1, e2x_60)]
set_option maxRecDepth 1000000 in
theorem co_a58 : e2_okSB E_a58.length as_a58 f_a58 rs_a58 = true := by decide +kernel
def al_a58_0 : List ev_V := [(2, 33, 0), (2, 27, 0), (0, 0, 0), (0, 6, 0), (0, 30, 0), (1, 3, 4294967296), (9, 0, 0)]
def E_a58_0 : e2_E := [(2147483648, 2147583648, 0, 0), (2147483652, 2147483668, 1, 0), (2147483648, 2147485248, 2, 0), (2147483648, 2147483678, 3, 0)]
noncomputable def h_a58_0 : ev_H := (an635 : e2_Q8)
noncomputable def cl_a58_e : List (Nat × e2_S) := [(66, e2_cutL (al_a58_0.set 5 (11, 2147483648, 2147483678)) 3 (E_a58_0.take 3) h_a58_0)]
set_option maxRecDepth 1000000 in
theorem ck_a58_e : e2_run (e2_cal S_a58 I_a58 4000 2) (e2_fin rs_a58) e2x_59 (e2_bpL cl_a58_e) (e2_cutA cl_a58_e) 4000 (e2_seek e2x_59 0) (e2_al 7 as_a58) [] E_a58 f_a58 = true := by decide +kernel
noncomputable def cl_a58_0 : List (Nat × e2_S) := [(66, e2_cutL (al_a58_0.set 5 (13, 11, 2147483678)) 3 (E_a58_0.take 3) h_a58_0)]
set_option maxRecDepth 1000000 in
theorem ck_a58_0 : e2_runM (e2_cal S_a58 I_a58 4000 2) (e2_fin rs_a58) e2x_59 (e2_bpL cl_a58_0) (e2_cutA cl_a58_0) 4000 (e2_seek e2x_59 66) al_a58_0 [] E_a58_0 h_a58_0 = true := by decide +kernel
set_option maxRecDepth 1000000 in
theorem ci_a58_0 : e2_idl 3 (al_a58_0.set 5 (9, 0, 0)) = true := by decide +kernel
set_option maxRecDepth 1000000 in
theorem cj_a58_0 : e2_idh 3 8 h_a58_0 = true := by decide +kernel
theorem cs_a58 (hen : en_ok) (l : Launch) (hh : e2_hand_a l) : e2_smOk l 100 s_a58 := by
  refine e2_conG (H := 97) (n := 2) (C := evd_59) (S := S_a58) (I := I_a58) (fuel := 4000) hen ei_59 (e2_fa ((cs_a38 hen l hh).mono (by decide)) (e2_fa (cs_a57 hen l hh) e2_fz)) (e2_fa ein_19 (e2_fa ein_20 (e2_fa ein_60 e2_fz))) (by decide) co_a58 fun M d _ hC hcall p e R s m args below meth c Q D cA A ads r0 ha hl0 => ?_
  have L_0 : e2_gdM M p l e R s m args below meth c Q D cA A ads r0 66 al_a58_0 [] E_a58_0 h_a58_0 := by
    refine e2_indL (u := 3) (j := 5) (lo := 2147483648) (hi := 2147483678) (b := 3) (dd := 0) hl0 (by decide) rfl rfl (Or.inr ⟨rfl, rfl⟩) rfl ci_a58_0 cj_a58_0 ?_
    intro r_0 k_0 hk_0 hp_0 hs_0 hn_0
    have hl_0 : r_0.length ≤ 4 := hs_0.len rfl
    have ha_0 := ha.ext hp_0
    exact e2_fromM hen ha_0 hcall (e2_cutA_ok (e2_fa (fun al st E h hc => hn_0 al st E h hc) e2_fz)) (hC []) (X := e2x_59) ex2_59 66 ck_a58_0
  have EN_0 := e2_entL (u := 3) (j := 5) (lo := 2147483648) (hi := 2147483678) hl0 rfl rfl rfl ci_a58_0 cj_a58_0 L_0
  exact e2_from hen ha hcall (e2_cutA_ok (e2_fa (fun al st E h hc => EN_0 al st E h hc) e2_fz)) (hC []) (X := e2x_59) ex2_59 0 ck_a58_e
/-! a59 X3_parseUnit -/
def as_a59 : List ev_V := [(2, 33, 0), (2, 27, 0), (0, 5, 0)]
def E_a59 : e2_E := [(2147483648, 2147583648, 0, 0), (2147483652, 2147483668, 1, 0), (2147483648, 2147485248, 2, 0)]
noncomputable def f_a59 : ev_H := (an635 : e2_Q8)
noncomputable def q_a59_0 : ev_H := (an635 : e2_Q8)
noncomputable def rs_a59 : e2_Rs := [((11, 2147483648, 2147483649), q_a59_0)]
noncomputable def s_a59 : e2_Sm := (62, as_a59, E_a59, f_a59, rs_a59)
noncomputable def S_a59 : List e2_Sm := [s_a38, s_a39, s_a58]
noncomputable def I_a59 : List e2_In := [(18, 2, e2x_18), (19, 2, e2x_19), (20, 2, e2x_20), (43, 2, e2x_43), (44, 3, e2x_44)]
set_option maxRecDepth 1000000 in
theorem ck_a59 : e2_run (e2_cal S_a59 I_a59 4000 2) (e2_fin rs_a59) e2x_62 (fun _ => false) (fun _ _ _ _ _ => false) 4000 (e2_seek e2x_62 0) (e2_al 7 as_a59) [] E_a59 f_a59 = true := by decide +kernel
set_option maxRecDepth 1000000 in
theorem co_a59 : e2_okSB E_a59.length as_a59 f_a59 rs_a59 = true := by decide +kernel
theorem cs_a59 (hen : en_ok) (l : Launch) (hh : e2_hand_a l) : e2_smOk l 103 s_a59 := e2_con0 (H := 100) (n := 2) (C := evd_62) (S := S_a59) (I := I_a59) (fuel := 4000) [] hen ei_62 (e2_fa ((cs_a38 hen l hh).mono (by decide)) (e2_fa ((cs_a39 hen l hh).mono (by decide)) (e2_fa (cs_a58 hen l hh) e2_fz))) (e2_fa ein_18 (e2_fa ein_19 (e2_fa ein_20 (e2_fa ein_43 (e2_fa ein_44 e2_fz))))) (by decide) co_a59 ex2_62 ck_a59
/-! a60 X3_parseLevel -/
def as_a60 : List ev_V := [(2, 33, 0), (2, 27, 0), (0, 5, 0), (0, 5, 0)]
def E_a60 : e2_E := [(2147483648, 2147583648, 0, 0), (2147483652, 2147483668, 1, 0), (2147483648, 2147485248, 2, 0)]
noncomputable def f_a60 : ev_H := (an635 : e2_Q8)
noncomputable def q_a60_0 : ev_H := (an635 : e2_Q8)
noncomputable def rs_a60 : e2_Rs := [((11, 2147483648, 2147483649), q_a60_0)]
noncomputable def s_a60 : e2_Sm := (59, as_a60, E_a60, f_a60, rs_a60)
noncomputable def S_a60 : List e2_Sm := [s_a59]
noncomputable def I_a60 : List e2_In := []
set_option maxRecDepth 1000000 in
theorem ck_a60 : e2_run (e2_cal S_a60 I_a60 4000 0) (e2_fin rs_a60) e2x_59 (fun _ => false) (fun _ _ _ _ _ => false) 4000 (e2_seek e2x_59 0) (e2_al 7 as_a60) [] E_a60 f_a60 = true := by decide +kernel
set_option maxRecDepth 1000000 in
theorem co_a60 : e2_okSB E_a60.length as_a60 f_a60 rs_a60 = true := by decide +kernel
theorem cs_a60 (hen : en_ok) (l : Launch) (hh : e2_hand_a l) : e2_smOk l 104 s_a60 := e2_con0 (H := 103) (n := 0) (C := evd_59) (S := S_a60) (I := I_a60) (fuel := 4000) [] hen ei_59 (e2_fa (cs_a59 hen l hh) e2_fz) e2_fz (by decide) co_a60 ex2_59 ck_a60
/-! a61 X3_parseLevel -/
def as_a61 : List ev_V := [(2, 33, 0), (2, 27, 0), (0, 4, 0), (0, 5, 0)]
def E_a61 : e2_E := [(2147483648, 2147583648, 0, 0), (2147483652, 2147483668, 1, 0), (2147483648, 2147485248, 2, 0)]
noncomputable def f_a61 : ev_H := (an635 : e2_Q8)
noncomputable def q_a61_0 : ev_H := (an635 : e2_Q8)
noncomputable def rs_a61 : e2_Rs := [((11, 2147483648, 2147483649), q_a61_0)]
noncomputable def s_a61 : e2_Sm := (59, as_a61, E_a61, f_a61, rs_a61)
noncomputable def S_a61 : List e2_Sm := [s_a38, s_a60]
noncomputable def I_a61 : List e2_In := [(19, 2, e2x_19), (20, 2, e2x_20), (60, 1, e2x_60)]
set_option maxRecDepth 1000000 in
theorem co_a61 : e2_okSB E_a61.length as_a61 f_a61 rs_a61 = true := by decide +kernel
def al_a61_0 : List ev_V := [(2, 33, 0), (2, 27, 0), (0, 4, 0), (0, 5, 0), (0, 30, 0), (1, 3, 4294967296), (9, 0, 0)]
def E_a61_0 : e2_E := [(2147483648, 2147583648, 0, 0), (2147483652, 2147483668, 1, 0), (2147483648, 2147485248, 2, 0), (2147483648, 2147483678, 3, 0)]
noncomputable def h_a61_0 : ev_H := (an635 : e2_Q8)
noncomputable def cl_a61_e : List (Nat × e2_S) := [(66, e2_cutL (al_a61_0.set 5 (11, 2147483648, 2147483678)) 3 (E_a61_0.take 3) h_a61_0)]
set_option maxRecDepth 1000000 in
theorem ck_a61_e : e2_run (e2_cal S_a61 I_a61 4000 2) (e2_fin rs_a61) e2x_59 (e2_bpL cl_a61_e) (e2_cutA cl_a61_e) 4000 (e2_seek e2x_59 0) (e2_al 7 as_a61) [] E_a61 f_a61 = true := by decide +kernel
noncomputable def cl_a61_0 : List (Nat × e2_S) := [(66, e2_cutL (al_a61_0.set 5 (13, 11, 2147483678)) 3 (E_a61_0.take 3) h_a61_0)]
set_option maxRecDepth 1000000 in
theorem ck_a61_0 : e2_runM (e2_cal S_a61 I_a61 4000 2) (e2_fin rs_a61) e2x_59 (e2_bpL cl_a61_0) (e2_cutA cl_a61_0) 4000 (e2_seek e2x_59 66) al_a61_0 [] E_a61_0 h_a61_0 = true := by decide +kernel
set_option maxRecDepth 1000000 in
theorem ci_a61_0 : e2_idl 3 (al_a61_0.set 5 (9, 0, 0)) = true := by decide +kernel
set_option maxRecDepth 1000000 in
theorem cj_a61_0 : e2_idh 3 8 h_a61_0 = true := by decide +kernel
theorem cs_a61 (hen : en_ok) (l : Launch) (hh : e2_hand_a l) : e2_smOk l 107 s_a61 := by
  refine e2_conG (H := 104) (n := 2) (C := evd_59) (S := S_a61) (I := I_a61) (fuel := 4000) hen ei_59 (e2_fa ((cs_a38 hen l hh).mono (by decide)) (e2_fa (cs_a60 hen l hh) e2_fz)) (e2_fa ein_19 (e2_fa ein_20 (e2_fa ein_60 e2_fz))) (by decide) co_a61 fun M d _ hC hcall p e R s m args below meth c Q D cA A ads r0 ha hl0 => ?_
  have L_0 : e2_gdM M p l e R s m args below meth c Q D cA A ads r0 66 al_a61_0 [] E_a61_0 h_a61_0 := by
    refine e2_indL (u := 3) (j := 5) (lo := 2147483648) (hi := 2147483678) (b := 3) (dd := 0) hl0 (by decide) rfl rfl (Or.inr ⟨rfl, rfl⟩) rfl ci_a61_0 cj_a61_0 ?_
    intro r_0 k_0 hk_0 hp_0 hs_0 hn_0
    have hl_0 : r_0.length ≤ 4 := hs_0.len rfl
    have ha_0 := ha.ext hp_0
    exact e2_fromM hen ha_0 hcall (e2_cutA_ok (e2_fa (fun al st E h hc => hn_0 al st E h hc) e2_fz)) (hC []) (X := e2x_59) ex2_59 66 ck_a61_0
  have EN_0 := e2_entL (u := 3) (j := 5) (lo := 2147483648) (hi := 2147483678) hl0 rfl rfl rfl ci_a61_0 cj_a61_0 L_0
  exact e2_from hen ha hcall (e2_cutA_ok (e2_fa (fun al st E h hc => EN_0 al st E h hc) e2_fz)) (hC []) (X := e2x_59) ex2_59 0 ck_a61_e
/-! a62 X3_parseLevel -/
def as_a62 : List ev_V := [(2, 33, 0), (2, 27, 0), (0, 3, 0), (0, 5, 0)]
def E_a62 : e2_E := [(2147483648, 2147583648, 0, 0), (2147483652, 2147483668, 1, 0), (2147483648, 2147485248, 2, 0)]
noncomputable def f_a62 : ev_H := (an635 : e2_Q8)
noncomputable def q_a62_0 : ev_H := (an635 : e2_Q8)
noncomputable def rs_a62 : e2_Rs := [((11, 2147483648, 2147483649), q_a62_0)]
noncomputable def s_a62 : e2_Sm := (59, as_a62, E_a62, f_a62, rs_a62)
noncomputable def S_a62 : List e2_Sm := [s_a38, s_a61]
noncomputable def I_a62 : List e2_In := [(19, 2, e2x_19), (20, 2, e2x_20), (60, 1, e2x_60)]
set_option maxRecDepth 1000000 in
theorem co_a62 : e2_okSB E_a62.length as_a62 f_a62 rs_a62 = true := by decide +kernel
def al_a62_0 : List ev_V := [(2, 33, 0), (2, 27, 0), (0, 3, 0), (0, 5, 0), (0, 30, 0), (1, 3, 4294967296), (9, 0, 0)]
def E_a62_0 : e2_E := [(2147483648, 2147583648, 0, 0), (2147483652, 2147483668, 1, 0), (2147483648, 2147485248, 2, 0), (2147483648, 2147483678, 3, 0)]
noncomputable def h_a62_0 : ev_H := (an635 : e2_Q8)
noncomputable def cl_a62_e : List (Nat × e2_S) := [(66, e2_cutL (al_a62_0.set 5 (11, 2147483648, 2147483678)) 3 (E_a62_0.take 3) h_a62_0)]
set_option maxRecDepth 1000000 in
theorem ck_a62_e : e2_run (e2_cal S_a62 I_a62 4000 2) (e2_fin rs_a62) e2x_59 (e2_bpL cl_a62_e) (e2_cutA cl_a62_e) 4000 (e2_seek e2x_59 0) (e2_al 7 as_a62) [] E_a62 f_a62 = true := by decide +kernel
noncomputable def cl_a62_0 : List (Nat × e2_S) := [(66, e2_cutL (al_a62_0.set 5 (13, 11, 2147483678)) 3 (E_a62_0.take 3) h_a62_0)]
set_option maxRecDepth 1000000 in
theorem ck_a62_0 : e2_runM (e2_cal S_a62 I_a62 4000 2) (e2_fin rs_a62) e2x_59 (e2_bpL cl_a62_0) (e2_cutA cl_a62_0) 4000 (e2_seek e2x_59 66) al_a62_0 [] E_a62_0 h_a62_0 = true := by decide +kernel
set_option maxRecDepth 1000000 in
theorem ci_a62_0 : e2_idl 3 (al_a62_0.set 5 (9, 0, 0)) = true := by decide +kernel
set_option maxRecDepth 1000000 in
theorem cj_a62_0 : e2_idh 3 8 h_a62_0 = true := by decide +kernel
theorem cs_a62 (hen : en_ok) (l : Launch) (hh : e2_hand_a l) : e2_smOk l 110 s_a62 := by
  refine e2_conG (H := 107) (n := 2) (C := evd_59) (S := S_a62) (I := I_a62) (fuel := 4000) hen ei_59 (e2_fa ((cs_a38 hen l hh).mono (by decide)) (e2_fa (cs_a61 hen l hh) e2_fz)) (e2_fa ein_19 (e2_fa ein_20 (e2_fa ein_60 e2_fz))) (by decide) co_a62 fun M d _ hC hcall p e R s m args below meth c Q D cA A ads r0 ha hl0 => ?_
  have L_0 : e2_gdM M p l e R s m args below meth c Q D cA A ads r0 66 al_a62_0 [] E_a62_0 h_a62_0 := by
    refine e2_indL (u := 3) (j := 5) (lo := 2147483648) (hi := 2147483678) (b := 3) (dd := 0) hl0 (by decide) rfl rfl (Or.inr ⟨rfl, rfl⟩) rfl ci_a62_0 cj_a62_0 ?_
    intro r_0 k_0 hk_0 hp_0 hs_0 hn_0
    have hl_0 : r_0.length ≤ 4 := hs_0.len rfl
    have ha_0 := ha.ext hp_0
    exact e2_fromM hen ha_0 hcall (e2_cutA_ok (e2_fa (fun al st E h hc => hn_0 al st E h hc) e2_fz)) (hC []) (X := e2x_59) ex2_59 66 ck_a62_0
  have EN_0 := e2_entL (u := 3) (j := 5) (lo := 2147483648) (hi := 2147483678) hl0 rfl rfl rfl ci_a62_0 cj_a62_0 L_0
  exact e2_from hen ha hcall (e2_cutA_ok (e2_fa (fun al st E h hc => EN_0 al st E h hc) e2_fz)) (hC []) (X := e2x_59) ex2_59 0 ck_a62_e
/-! a63 X3_parseNot -/
def as_a63 : List ev_V := [(2, 33, 0), (2, 27, 0), (0, 5, 0)]
def E_a63 : e2_E := [(2147483648, 2147583648, 0, 0), (2147483652, 2147483668, 1, 0), (2147483648, 2147485248, 2, 0)]
noncomputable def f_a63 : ev_H := (an635 : e2_Q8)
noncomputable def q_a63_0 : ev_H := (an635 : e2_Q8)
noncomputable def rs_a63 : e2_Rs := [((11, 2147483648, 2147483649), q_a63_0)]
noncomputable def s_a63 : e2_Sm := (61, as_a63, E_a63, f_a63, rs_a63)
noncomputable def S_a63 : List e2_Sm := [s_a38, s_a56]
noncomputable def I_a63 : List e2_In := [(19, 2, e2x_19), (20, 2, e2x_20)]
set_option maxRecDepth 1000000 in
theorem ck_a63 : e2_run (e2_cal S_a63 I_a63 4000 2) (e2_fin rs_a63) e2x_61 (fun _ => false) (fun _ _ _ _ _ => false) 4000 (e2_seek e2x_61 0) (e2_al 3 as_a63) [] E_a63 f_a63 = true := by decide +kernel
set_option maxRecDepth 1000000 in
theorem co_a63 : e2_okSB E_a63.length as_a63 f_a63 rs_a63 = true := by decide +kernel
theorem cs_a63 (hen : en_ok) (l : Launch) (hh : e2_hand_a l) : e2_smOk l 97 s_a63 := e2_con0 (H := 94) (n := 2) (C := evd_61) (S := S_a63) (I := I_a63) (fuel := 4000) [] hen ei_61 (e2_fa ((cs_a38 hen l hh).mono (by decide)) (e2_fa (cs_a56 hen l hh) e2_fz)) (e2_fa ein_19 (e2_fa ein_20 e2_fz)) (by decide) co_a63 ex2_61 ck_a63
/-! a64 X3_parseLevel -/
def as_a64 : List ev_V := [(2, 33, 0), (2, 27, 0), (0, 2, 0), (0, 5, 0)]
def E_a64 : e2_E := [(2147483648, 2147583648, 0, 0), (2147483652, 2147483668, 1, 0), (2147483648, 2147485248, 2, 0)]
noncomputable def f_a64 : ev_H := (an635 : e2_Q8)
noncomputable def q_a64_0 : ev_H := (an635 : e2_Q8)
noncomputable def rs_a64 : e2_Rs := [((11, 2147483648, 2147483649), q_a64_0)]
noncomputable def s_a64 : e2_Sm := (59, as_a64, E_a64, f_a64, rs_a64)
noncomputable def S_a64 : List e2_Sm := [s_a38, s_a62, s_a63]
noncomputable def I_a64 : List e2_In := [(19, 2, e2x_19), (20, 2, e2x_20), (60, 1, e2x_60)]
set_option maxRecDepth 1000000 in
theorem co_a64 : e2_okSB E_a64.length as_a64 f_a64 rs_a64 = true := by decide +kernel
def al_a64_0 : List ev_V := [(2, 33, 0), (2, 27, 0), (0, 2, 0), (0, 5, 0), (0, 1, 0), (1, 3, 4294967296), (9, 0, 0)]
def E_a64_0 : e2_E := [(2147483648, 2147583648, 0, 0), (2147483652, 2147483668, 1, 0), (2147483648, 2147485248, 2, 0), (2147483648, 2147483649, 3, 0)]
noncomputable def h_a64_0 : ev_H := (an635 : e2_Q8)
noncomputable def cl_a64_e : List (Nat × e2_S) := [(66, e2_cutL (al_a64_0.set 5 (11, 2147483648, 2147483649)) 3 (E_a64_0.take 3) h_a64_0)]
set_option maxRecDepth 1000000 in
theorem ck_a64_e : e2_run (e2_cal S_a64 I_a64 4000 2) (e2_fin rs_a64) e2x_59 (e2_bpL cl_a64_e) (e2_cutA cl_a64_e) 4000 (e2_seek e2x_59 0) (e2_al 7 as_a64) [] E_a64 f_a64 = true := by decide +kernel
noncomputable def cl_a64_0 : List (Nat × e2_S) := [(66, e2_cutL (al_a64_0.set 5 (13, 11, 2147483649)) 3 (E_a64_0.take 3) h_a64_0)]
set_option maxRecDepth 1000000 in
theorem ck_a64_0 : e2_runM (e2_cal S_a64 I_a64 4000 2) (e2_fin rs_a64) e2x_59 (e2_bpL cl_a64_0) (e2_cutA cl_a64_0) 4000 (e2_seek e2x_59 66) al_a64_0 [] E_a64_0 h_a64_0 = true := by decide +kernel
set_option maxRecDepth 1000000 in
theorem ci_a64_0 : e2_idl 3 (al_a64_0.set 5 (9, 0, 0)) = true := by decide +kernel
set_option maxRecDepth 1000000 in
theorem cj_a64_0 : e2_idh 3 8 h_a64_0 = true := by decide +kernel
theorem cs_a64 (hen : en_ok) (l : Launch) (hh : e2_hand_a l) : e2_smOk l 113 s_a64 := by
  refine e2_conG (H := 110) (n := 2) (C := evd_59) (S := S_a64) (I := I_a64) (fuel := 4000) hen ei_59 (e2_fa ((cs_a38 hen l hh).mono (by decide)) (e2_fa (cs_a62 hen l hh) (e2_fa ((cs_a63 hen l hh).mono (by decide)) e2_fz))) (e2_fa ein_19 (e2_fa ein_20 (e2_fa ein_60 e2_fz))) (by decide) co_a64 fun M d _ hC hcall p e R s m args below meth c Q D cA A ads r0 ha hl0 => ?_
  have L_0 : e2_gdM M p l e R s m args below meth c Q D cA A ads r0 66 al_a64_0 [] E_a64_0 h_a64_0 := by
    refine e2_indL (u := 3) (j := 5) (lo := 2147483648) (hi := 2147483649) (b := 3) (dd := 0) hl0 (by decide) rfl rfl (Or.inr ⟨rfl, rfl⟩) rfl ci_a64_0 cj_a64_0 ?_
    intro r_0 k_0 hk_0 hp_0 hs_0 hn_0
    have hl_0 : r_0.length ≤ 4 := hs_0.len rfl
    have ha_0 := ha.ext hp_0
    exact e2_fromM hen ha_0 hcall (e2_cutA_ok (e2_fa (fun al st E h hc => hn_0 al st E h hc) e2_fz)) (hC []) (X := e2x_59) ex2_59 66 ck_a64_0
  have EN_0 := e2_entL (u := 3) (j := 5) (lo := 2147483648) (hi := 2147483649) hl0 rfl rfl rfl ci_a64_0 cj_a64_0 L_0
  exact e2_from hen ha hcall (e2_cutA_ok (e2_fa (fun al st E h hc => EN_0 al st E h hc) e2_fz)) (hC []) (X := e2x_59) ex2_59 0 ck_a64_e
/-! a65 X3_parseLevel -/
def as_a65 : List ev_V := [(2, 33, 0), (2, 27, 0), (0, 1, 0), (0, 5, 0)]
def E_a65 : e2_E := [(2147483648, 2147583648, 0, 0), (2147483652, 2147483668, 1, 0), (2147483648, 2147485248, 2, 0)]
noncomputable def f_a65 : ev_H := (an635 : e2_Q8)
noncomputable def q_a65_0 : ev_H := (an635 : e2_Q8)
noncomputable def rs_a65 : e2_Rs := [((11, 2147483648, 2147483649), q_a65_0)]
noncomputable def s_a65 : e2_Sm := (59, as_a65, E_a65, f_a65, rs_a65)
noncomputable def S_a65 : List e2_Sm := [s_a38, s_a64]
noncomputable def I_a65 : List e2_In := [(19, 2, e2x_19), (20, 2, e2x_20), (60, 1, e2x_60)]
set_option maxRecDepth 1000000 in
theorem co_a65 : e2_okSB E_a65.length as_a65 f_a65 rs_a65 = true := by decide +kernel
def al_a65_0 : List ev_V := [(2, 33, 0), (2, 27, 0), (0, 1, 0), (0, 5, 0), (0, 30, 0), (1, 3, 4294967296), (9, 0, 0)]
def E_a65_0 : e2_E := [(2147483648, 2147583648, 0, 0), (2147483652, 2147483668, 1, 0), (2147483648, 2147485248, 2, 0), (2147483648, 2147483678, 3, 0)]
noncomputable def h_a65_0 : ev_H := (an635 : e2_Q8)
noncomputable def cl_a65_e : List (Nat × e2_S) := [(66, e2_cutL (al_a65_0.set 5 (11, 2147483648, 2147483678)) 3 (E_a65_0.take 3) h_a65_0)]
set_option maxRecDepth 1000000 in
theorem ck_a65_e : e2_run (e2_cal S_a65 I_a65 4000 2) (e2_fin rs_a65) e2x_59 (e2_bpL cl_a65_e) (e2_cutA cl_a65_e) 4000 (e2_seek e2x_59 0) (e2_al 7 as_a65) [] E_a65 f_a65 = true := by decide +kernel
noncomputable def cl_a65_0 : List (Nat × e2_S) := [(66, e2_cutL (al_a65_0.set 5 (13, 11, 2147483678)) 3 (E_a65_0.take 3) h_a65_0)]
set_option maxRecDepth 1000000 in
theorem ck_a65_0 : e2_runM (e2_cal S_a65 I_a65 4000 2) (e2_fin rs_a65) e2x_59 (e2_bpL cl_a65_0) (e2_cutA cl_a65_0) 4000 (e2_seek e2x_59 66) al_a65_0 [] E_a65_0 h_a65_0 = true := by decide +kernel
set_option maxRecDepth 1000000 in
theorem ci_a65_0 : e2_idl 3 (al_a65_0.set 5 (9, 0, 0)) = true := by decide +kernel
set_option maxRecDepth 1000000 in
theorem cj_a65_0 : e2_idh 3 8 h_a65_0 = true := by decide +kernel
theorem cs_a65 (hen : en_ok) (l : Launch) (hh : e2_hand_a l) : e2_smOk l 116 s_a65 := by
  refine e2_conG (H := 113) (n := 2) (C := evd_59) (S := S_a65) (I := I_a65) (fuel := 4000) hen ei_59 (e2_fa ((cs_a38 hen l hh).mono (by decide)) (e2_fa (cs_a64 hen l hh) e2_fz)) (e2_fa ein_19 (e2_fa ein_20 (e2_fa ein_60 e2_fz))) (by decide) co_a65 fun M d _ hC hcall p e R s m args below meth c Q D cA A ads r0 ha hl0 => ?_
  have L_0 : e2_gdM M p l e R s m args below meth c Q D cA A ads r0 66 al_a65_0 [] E_a65_0 h_a65_0 := by
    refine e2_indL (u := 3) (j := 5) (lo := 2147483648) (hi := 2147483678) (b := 3) (dd := 0) hl0 (by decide) rfl rfl (Or.inr ⟨rfl, rfl⟩) rfl ci_a65_0 cj_a65_0 ?_
    intro r_0 k_0 hk_0 hp_0 hs_0 hn_0
    have hl_0 : r_0.length ≤ 4 := hs_0.len rfl
    have ha_0 := ha.ext hp_0
    exact e2_fromM hen ha_0 hcall (e2_cutA_ok (e2_fa (fun al st E h hc => hn_0 al st E h hc) e2_fz)) (hC []) (X := e2x_59) ex2_59 66 ck_a65_0
  have EN_0 := e2_entL (u := 3) (j := 5) (lo := 2147483648) (hi := 2147483678) hl0 rfl rfl rfl ci_a65_0 cj_a65_0 L_0
  exact e2_from hen ha hcall (e2_cutA_ok (e2_fa (fun al st E h hc => EN_0 al st E h hc) e2_fz)) (hC []) (X := e2x_59) ex2_59 0 ck_a65_e
/-! a66 X3_parseLevel -/
def as_a66 : List ev_V := [(2, 33, 0), (2, 27, 0), (0, 0, 0), (0, 5, 0)]
def E_a66 : e2_E := [(2147483648, 2147583648, 0, 0), (2147483652, 2147483668, 1, 0), (2147483648, 2147485248, 2, 0)]
noncomputable def f_a66 : ev_H := (an635 : e2_Q8)
noncomputable def q_a66_0 : ev_H := (an635 : e2_Q8)
noncomputable def rs_a66 : e2_Rs := [((11, 2147483648, 2147483649), q_a66_0)]
noncomputable def s_a66 : e2_Sm := (59, as_a66, E_a66, f_a66, rs_a66)
noncomputable def S_a66 : List e2_Sm := [s_a38, s_a65]
noncomputable def I_a66 : List e2_In := [(19, 2, e2x_19), (20, 2, e2x_20), (60, 1, e2x_60)]
set_option maxRecDepth 1000000 in
theorem co_a66 : e2_okSB E_a66.length as_a66 f_a66 rs_a66 = true := by decide +kernel
def al_a66_0 : List ev_V := [(2, 33, 0), (2, 27, 0), (0, 0, 0), (0, 5, 0), (0, 30, 0), (1, 3, 4294967296), (9, 0, 0)]
def E_a66_0 : e2_E := [(2147483648, 2147583648, 0, 0), (2147483652, 2147483668, 1, 0), (2147483648, 2147485248, 2, 0), (2147483648, 2147483678, 3, 0)]
noncomputable def h_a66_0 : ev_H := (an635 : e2_Q8)
noncomputable def cl_a66_e : List (Nat × e2_S) := [(66, e2_cutL (al_a66_0.set 5 (11, 2147483648, 2147483678)) 3 (E_a66_0.take 3) h_a66_0)]
set_option maxRecDepth 1000000 in
theorem ck_a66_e : e2_run (e2_cal S_a66 I_a66 4000 2) (e2_fin rs_a66) e2x_59 (e2_bpL cl_a66_e) (e2_cutA cl_a66_e) 4000 (e2_seek e2x_59 0) (e2_al 7 as_a66) [] E_a66 f_a66 = true := by decide +kernel
noncomputable def cl_a66_0 : List (Nat × e2_S) := [(66, e2_cutL (al_a66_0.set 5 (13, 11, 2147483678)) 3 (E_a66_0.take 3) h_a66_0)]
set_option maxRecDepth 1000000 in
theorem ck_a66_0 : e2_runM (e2_cal S_a66 I_a66 4000 2) (e2_fin rs_a66) e2x_59 (e2_bpL cl_a66_0) (e2_cutA cl_a66_0) 4000 (e2_seek e2x_59 66) al_a66_0 [] E_a66_0 h_a66_0 = true := by decide +kernel
set_option maxRecDepth 1000000 in
theorem ci_a66_0 : e2_idl 3 (al_a66_0.set 5 (9, 0, 0)) = true := by decide +kernel
set_option maxRecDepth 1000000 in
theorem cj_a66_0 : e2_idh 3 8 h_a66_0 = true := by decide +kernel
theorem cs_a66 (hen : en_ok) (l : Launch) (hh : e2_hand_a l) : e2_smOk l 119 s_a66 := by
  refine e2_conG (H := 116) (n := 2) (C := evd_59) (S := S_a66) (I := I_a66) (fuel := 4000) hen ei_59 (e2_fa ((cs_a38 hen l hh).mono (by decide)) (e2_fa (cs_a65 hen l hh) e2_fz)) (e2_fa ein_19 (e2_fa ein_20 (e2_fa ein_60 e2_fz))) (by decide) co_a66 fun M d _ hC hcall p e R s m args below meth c Q D cA A ads r0 ha hl0 => ?_
  have L_0 : e2_gdM M p l e R s m args below meth c Q D cA A ads r0 66 al_a66_0 [] E_a66_0 h_a66_0 := by
    refine e2_indL (u := 3) (j := 5) (lo := 2147483648) (hi := 2147483678) (b := 3) (dd := 0) hl0 (by decide) rfl rfl (Or.inr ⟨rfl, rfl⟩) rfl ci_a66_0 cj_a66_0 ?_
    intro r_0 k_0 hk_0 hp_0 hs_0 hn_0
    have hl_0 : r_0.length ≤ 4 := hs_0.len rfl
    have ha_0 := ha.ext hp_0
    exact e2_fromM hen ha_0 hcall (e2_cutA_ok (e2_fa (fun al st E h hc => hn_0 al st E h hc) e2_fz)) (hC []) (X := e2x_59) ex2_59 66 ck_a66_0
  have EN_0 := e2_entL (u := 3) (j := 5) (lo := 2147483648) (hi := 2147483678) hl0 rfl rfl rfl ci_a66_0 cj_a66_0 L_0
  exact e2_from hen ha hcall (e2_cutA_ok (e2_fa (fun al st E h hc => EN_0 al st E h hc) e2_fz)) (hC []) (X := e2x_59) ex2_59 0 ck_a66_e
/-! a67 X3_parseUnit -/
def as_a67 : List ev_V := [(2, 33, 0), (2, 27, 0), (0, 4, 0)]
def E_a67 : e2_E := [(2147483648, 2147583648, 0, 0), (2147483652, 2147483668, 1, 0), (2147483648, 2147485248, 2, 0)]
noncomputable def f_a67 : ev_H := (an635 : e2_Q8)
noncomputable def q_a67_0 : ev_H := (an635 : e2_Q8)
noncomputable def rs_a67 : e2_Rs := [((11, 2147483648, 2147483649), q_a67_0)]
noncomputable def s_a67 : e2_Sm := (62, as_a67, E_a67, f_a67, rs_a67)
noncomputable def S_a67 : List e2_Sm := [s_a38, s_a39, s_a66]
noncomputable def I_a67 : List e2_In := [(18, 2, e2x_18), (19, 2, e2x_19), (20, 2, e2x_20), (43, 2, e2x_43), (44, 3, e2x_44)]
set_option maxRecDepth 1000000 in
theorem ck_a67 : e2_run (e2_cal S_a67 I_a67 4000 2) (e2_fin rs_a67) e2x_62 (fun _ => false) (fun _ _ _ _ _ => false) 4000 (e2_seek e2x_62 0) (e2_al 7 as_a67) [] E_a67 f_a67 = true := by decide +kernel
set_option maxRecDepth 1000000 in
theorem co_a67 : e2_okSB E_a67.length as_a67 f_a67 rs_a67 = true := by decide +kernel
theorem cs_a67 (hen : en_ok) (l : Launch) (hh : e2_hand_a l) : e2_smOk l 122 s_a67 := e2_con0 (H := 119) (n := 2) (C := evd_62) (S := S_a67) (I := I_a67) (fuel := 4000) [] hen ei_62 (e2_fa ((cs_a38 hen l hh).mono (by decide)) (e2_fa ((cs_a39 hen l hh).mono (by decide)) (e2_fa (cs_a66 hen l hh) e2_fz))) (e2_fa ein_18 (e2_fa ein_19 (e2_fa ein_20 (e2_fa ein_43 (e2_fa ein_44 e2_fz))))) (by decide) co_a67 ex2_62 ck_a67
/-! a68 X3_parseLevel -/
def as_a68 : List ev_V := [(2, 33, 0), (2, 27, 0), (0, 5, 0), (0, 4, 0)]
def E_a68 : e2_E := [(2147483648, 2147583648, 0, 0), (2147483652, 2147483668, 1, 0), (2147483648, 2147485248, 2, 0)]
noncomputable def f_a68 : ev_H := (an635 : e2_Q8)
noncomputable def q_a68_0 : ev_H := (an635 : e2_Q8)
noncomputable def rs_a68 : e2_Rs := [((11, 2147483648, 2147483649), q_a68_0)]
noncomputable def s_a68 : e2_Sm := (59, as_a68, E_a68, f_a68, rs_a68)
noncomputable def S_a68 : List e2_Sm := [s_a67]
noncomputable def I_a68 : List e2_In := []
set_option maxRecDepth 1000000 in
theorem ck_a68 : e2_run (e2_cal S_a68 I_a68 4000 0) (e2_fin rs_a68) e2x_59 (fun _ => false) (fun _ _ _ _ _ => false) 4000 (e2_seek e2x_59 0) (e2_al 7 as_a68) [] E_a68 f_a68 = true := by decide +kernel
set_option maxRecDepth 1000000 in
theorem co_a68 : e2_okSB E_a68.length as_a68 f_a68 rs_a68 = true := by decide +kernel
theorem cs_a68 (hen : en_ok) (l : Launch) (hh : e2_hand_a l) : e2_smOk l 123 s_a68 := e2_con0 (H := 122) (n := 0) (C := evd_59) (S := S_a68) (I := I_a68) (fuel := 4000) [] hen ei_59 (e2_fa (cs_a67 hen l hh) e2_fz) e2_fz (by decide) co_a68 ex2_59 ck_a68
/-! a69 X3_parseLevel -/
def as_a69 : List ev_V := [(2, 33, 0), (2, 27, 0), (0, 4, 0), (0, 4, 0)]
def E_a69 : e2_E := [(2147483648, 2147583648, 0, 0), (2147483652, 2147483668, 1, 0), (2147483648, 2147485248, 2, 0)]
noncomputable def f_a69 : ev_H := (an635 : e2_Q8)
noncomputable def q_a69_0 : ev_H := (an635 : e2_Q8)
noncomputable def rs_a69 : e2_Rs := [((11, 2147483648, 2147483649), q_a69_0)]
noncomputable def s_a69 : e2_Sm := (59, as_a69, E_a69, f_a69, rs_a69)
noncomputable def S_a69 : List e2_Sm := [s_a38, s_a68]
noncomputable def I_a69 : List e2_In := [(19, 2, e2x_19), (20, 2, e2x_20), (60, 1, e2x_60)]
set_option maxRecDepth 1000000 in
theorem co_a69 : e2_okSB E_a69.length as_a69 f_a69 rs_a69 = true := by decide +kernel
def al_a69_0 : List ev_V := [(2, 33, 0), (2, 27, 0), (0, 4, 0), (0, 4, 0), (0, 30, 0), (1, 3, 4294967296), (9, 0, 0)]
def E_a69_0 : e2_E := [(2147483648, 2147583648, 0, 0), (2147483652, 2147483668, 1, 0), (2147483648, 2147485248, 2, 0), (2147483648, 2147483678, 3, 0)]
noncomputable def h_a69_0 : ev_H := (an635 : e2_Q8)
noncomputable def cl_a69_e : List (Nat × e2_S) := [(66, e2_cutL (al_a69_0.set 5 (11, 2147483648, 2147483678)) 3 (E_a69_0.take 3) h_a69_0)]
set_option maxRecDepth 1000000 in
theorem ck_a69_e : e2_run (e2_cal S_a69 I_a69 4000 2) (e2_fin rs_a69) e2x_59 (e2_bpL cl_a69_e) (e2_cutA cl_a69_e) 4000 (e2_seek e2x_59 0) (e2_al 7 as_a69) [] E_a69 f_a69 = true := by decide +kernel
noncomputable def cl_a69_0 : List (Nat × e2_S) := [(66, e2_cutL (al_a69_0.set 5 (13, 11, 2147483678)) 3 (E_a69_0.take 3) h_a69_0)]
set_option maxRecDepth 1000000 in
theorem ck_a69_0 : e2_runM (e2_cal S_a69 I_a69 4000 2) (e2_fin rs_a69) e2x_59 (e2_bpL cl_a69_0) (e2_cutA cl_a69_0) 4000 (e2_seek e2x_59 66) al_a69_0 [] E_a69_0 h_a69_0 = true := by decide +kernel
set_option maxRecDepth 1000000 in
theorem ci_a69_0 : e2_idl 3 (al_a69_0.set 5 (9, 0, 0)) = true := by decide +kernel
set_option maxRecDepth 1000000 in
theorem cj_a69_0 : e2_idh 3 8 h_a69_0 = true := by decide +kernel
theorem cs_a69 (hen : en_ok) (l : Launch) (hh : e2_hand_a l) : e2_smOk l 126 s_a69 := by
  refine e2_conG (H := 123) (n := 2) (C := evd_59) (S := S_a69) (I := I_a69) (fuel := 4000) hen ei_59 (e2_fa ((cs_a38 hen l hh).mono (by decide)) (e2_fa (cs_a68 hen l hh) e2_fz)) (e2_fa ein_19 (e2_fa ein_20 (e2_fa ein_60 e2_fz))) (by decide) co_a69 fun M d _ hC hcall p e R s m args below meth c Q D cA A ads r0 ha hl0 => ?_
  have L_0 : e2_gdM M p l e R s m args below meth c Q D cA A ads r0 66 al_a69_0 [] E_a69_0 h_a69_0 := by
    refine e2_indL (u := 3) (j := 5) (lo := 2147483648) (hi := 2147483678) (b := 3) (dd := 0) hl0 (by decide) rfl rfl (Or.inr ⟨rfl, rfl⟩) rfl ci_a69_0 cj_a69_0 ?_
    intro r_0 k_0 hk_0 hp_0 hs_0 hn_0
    have hl_0 : r_0.length ≤ 4 := hs_0.len rfl
    have ha_0 := ha.ext hp_0
    exact e2_fromM hen ha_0 hcall (e2_cutA_ok (e2_fa (fun al st E h hc => hn_0 al st E h hc) e2_fz)) (hC []) (X := e2x_59) ex2_59 66 ck_a69_0
  have EN_0 := e2_entL (u := 3) (j := 5) (lo := 2147483648) (hi := 2147483678) hl0 rfl rfl rfl ci_a69_0 cj_a69_0 L_0
  exact e2_from hen ha hcall (e2_cutA_ok (e2_fa (fun al st E h hc => EN_0 al st E h hc) e2_fz)) (hC []) (X := e2x_59) ex2_59 0 ck_a69_e
/-! a70 X3_parseLevel -/
def as_a70 : List ev_V := [(2, 33, 0), (2, 27, 0), (0, 3, 0), (0, 4, 0)]
def E_a70 : e2_E := [(2147483648, 2147583648, 0, 0), (2147483652, 2147483668, 1, 0), (2147483648, 2147485248, 2, 0)]
noncomputable def f_a70 : ev_H := (an635 : e2_Q8)
noncomputable def q_a70_0 : ev_H := (an635 : e2_Q8)
noncomputable def rs_a70 : e2_Rs := [((11, 2147483648, 2147483649), q_a70_0)]
noncomputable def s_a70 : e2_Sm := (59, as_a70, E_a70, f_a70, rs_a70)
noncomputable def S_a70 : List e2_Sm := [s_a38, s_a69]
noncomputable def I_a70 : List e2_In := [(19, 2, e2x_19), (20, 2, e2x_20), (60, 1, e2x_60)]
set_option maxRecDepth 1000000 in
theorem co_a70 : e2_okSB E_a70.length as_a70 f_a70 rs_a70 = true := by decide +kernel
def al_a70_0 : List ev_V := [(2, 33, 0), (2, 27, 0), (0, 3, 0), (0, 4, 0), (0, 30, 0), (1, 3, 4294967296), (9, 0, 0)]
def E_a70_0 : e2_E := [(2147483648, 2147583648, 0, 0), (2147483652, 2147483668, 1, 0), (2147483648, 2147485248, 2, 0), (2147483648, 2147483678, 3, 0)]
noncomputable def h_a70_0 : ev_H := (an635 : e2_Q8)
noncomputable def cl_a70_e : List (Nat × e2_S) := [(66, e2_cutL (al_a70_0.set 5 (11, 2147483648, 2147483678)) 3 (E_a70_0.take 3) h_a70_0)]
set_option maxRecDepth 1000000 in
theorem ck_a70_e : e2_run (e2_cal S_a70 I_a70 4000 2) (e2_fin rs_a70) e2x_59 (e2_bpL cl_a70_e) (e2_cutA cl_a70_e) 4000 (e2_seek e2x_59 0) (e2_al 7 as_a70) [] E_a70 f_a70 = true := by decide +kernel
noncomputable def cl_a70_0 : List (Nat × e2_S) := [(66, e2_cutL (al_a70_0.set 5 (13, 11, 2147483678)) 3 (E_a70_0.take 3) h_a70_0)]
set_option maxRecDepth 1000000 in
theorem ck_a70_0 : e2_runM (e2_cal S_a70 I_a70 4000 2) (e2_fin rs_a70) e2x_59 (e2_bpL cl_a70_0) (e2_cutA cl_a70_0) 4000 (e2_seek e2x_59 66) al_a70_0 [] E_a70_0 h_a70_0 = true := by decide +kernel
set_option maxRecDepth 1000000 in
theorem ci_a70_0 : e2_idl 3 (al_a70_0.set 5 (9, 0, 0)) = true := by decide +kernel
set_option maxRecDepth 1000000 in
theorem cj_a70_0 : e2_idh 3 8 h_a70_0 = true := by decide +kernel
theorem cs_a70 (hen : en_ok) (l : Launch) (hh : e2_hand_a l) : e2_smOk l 129 s_a70 := by
  refine e2_conG (H := 126) (n := 2) (C := evd_59) (S := S_a70) (I := I_a70) (fuel := 4000) hen ei_59 (e2_fa ((cs_a38 hen l hh).mono (by decide)) (e2_fa (cs_a69 hen l hh) e2_fz)) (e2_fa ein_19 (e2_fa ein_20 (e2_fa ein_60 e2_fz))) (by decide) co_a70 fun M d _ hC hcall p e R s m args below meth c Q D cA A ads r0 ha hl0 => ?_
  have L_0 : e2_gdM M p l e R s m args below meth c Q D cA A ads r0 66 al_a70_0 [] E_a70_0 h_a70_0 := by
    refine e2_indL (u := 3) (j := 5) (lo := 2147483648) (hi := 2147483678) (b := 3) (dd := 0) hl0 (by decide) rfl rfl (Or.inr ⟨rfl, rfl⟩) rfl ci_a70_0 cj_a70_0 ?_
    intro r_0 k_0 hk_0 hp_0 hs_0 hn_0
    have hl_0 : r_0.length ≤ 4 := hs_0.len rfl
    have ha_0 := ha.ext hp_0
    exact e2_fromM hen ha_0 hcall (e2_cutA_ok (e2_fa (fun al st E h hc => hn_0 al st E h hc) e2_fz)) (hC []) (X := e2x_59) ex2_59 66 ck_a70_0
  have EN_0 := e2_entL (u := 3) (j := 5) (lo := 2147483648) (hi := 2147483678) hl0 rfl rfl rfl ci_a70_0 cj_a70_0 L_0
  exact e2_from hen ha hcall (e2_cutA_ok (e2_fa (fun al st E h hc => EN_0 al st E h hc) e2_fz)) (hC []) (X := e2x_59) ex2_59 0 ck_a70_e
/-! a71 X3_parseNot -/
def as_a71 : List ev_V := [(2, 33, 0), (2, 27, 0), (0, 4, 0)]
def E_a71 : e2_E := [(2147483648, 2147583648, 0, 0), (2147483652, 2147483668, 1, 0), (2147483648, 2147485248, 2, 0)]
noncomputable def f_a71 : ev_H := (an635 : e2_Q8)
noncomputable def q_a71_0 : ev_H := (an635 : e2_Q8)
noncomputable def rs_a71 : e2_Rs := [((11, 2147483648, 2147483649), q_a71_0)]
noncomputable def s_a71 : e2_Sm := (61, as_a71, E_a71, f_a71, rs_a71)
noncomputable def S_a71 : List e2_Sm := [s_a38, s_a64]
noncomputable def I_a71 : List e2_In := [(19, 2, e2x_19), (20, 2, e2x_20)]
set_option maxRecDepth 1000000 in
theorem ck_a71 : e2_run (e2_cal S_a71 I_a71 4000 2) (e2_fin rs_a71) e2x_61 (fun _ => false) (fun _ _ _ _ _ => false) 4000 (e2_seek e2x_61 0) (e2_al 3 as_a71) [] E_a71 f_a71 = true := by decide +kernel
set_option maxRecDepth 1000000 in
theorem co_a71 : e2_okSB E_a71.length as_a71 f_a71 rs_a71 = true := by decide +kernel
theorem cs_a71 (hen : en_ok) (l : Launch) (hh : e2_hand_a l) : e2_smOk l 116 s_a71 := e2_con0 (H := 113) (n := 2) (C := evd_61) (S := S_a71) (I := I_a71) (fuel := 4000) [] hen ei_61 (e2_fa ((cs_a38 hen l hh).mono (by decide)) (e2_fa (cs_a64 hen l hh) e2_fz)) (e2_fa ein_19 (e2_fa ein_20 e2_fz)) (by decide) co_a71 ex2_61 ck_a71
/-! a72 X3_parseLevel -/
def as_a72 : List ev_V := [(2, 33, 0), (2, 27, 0), (0, 2, 0), (0, 4, 0)]
def E_a72 : e2_E := [(2147483648, 2147583648, 0, 0), (2147483652, 2147483668, 1, 0), (2147483648, 2147485248, 2, 0)]
noncomputable def f_a72 : ev_H := (an635 : e2_Q8)
noncomputable def q_a72_0 : ev_H := (an635 : e2_Q8)
noncomputable def rs_a72 : e2_Rs := [((11, 2147483648, 2147483649), q_a72_0)]
noncomputable def s_a72 : e2_Sm := (59, as_a72, E_a72, f_a72, rs_a72)
noncomputable def S_a72 : List e2_Sm := [s_a38, s_a70, s_a71]
noncomputable def I_a72 : List e2_In := [(19, 2, e2x_19), (20, 2, e2x_20), (60, 1, e2x_60)]
set_option maxRecDepth 1000000 in
theorem co_a72 : e2_okSB E_a72.length as_a72 f_a72 rs_a72 = true := by decide +kernel
def al_a72_0 : List ev_V := [(2, 33, 0), (2, 27, 0), (0, 2, 0), (0, 4, 0), (0, 1, 0), (1, 3, 4294967296), (9, 0, 0)]
def E_a72_0 : e2_E := [(2147483648, 2147583648, 0, 0), (2147483652, 2147483668, 1, 0), (2147483648, 2147485248, 2, 0), (2147483648, 2147483649, 3, 0)]
noncomputable def h_a72_0 : ev_H := (an635 : e2_Q8)
noncomputable def cl_a72_e : List (Nat × e2_S) := [(66, e2_cutL (al_a72_0.set 5 (11, 2147483648, 2147483649)) 3 (E_a72_0.take 3) h_a72_0)]
set_option maxRecDepth 1000000 in
theorem ck_a72_e : e2_run (e2_cal S_a72 I_a72 4000 2) (e2_fin rs_a72) e2x_59 (e2_bpL cl_a72_e) (e2_cutA cl_a72_e) 4000 (e2_seek e2x_59 0) (e2_al 7 as_a72) [] E_a72 f_a72 = true := by decide +kernel
noncomputable def cl_a72_0 : List (Nat × e2_S) := [(66, e2_cutL (al_a72_0.set 5 (13, 11, 2147483649)) 3 (E_a72_0.take 3) h_a72_0)]
set_option maxRecDepth 1000000 in
theorem ck_a72_0 : e2_runM (e2_cal S_a72 I_a72 4000 2) (e2_fin rs_a72) e2x_59 (e2_bpL cl_a72_0) (e2_cutA cl_a72_0) 4000 (e2_seek e2x_59 66) al_a72_0 [] E_a72_0 h_a72_0 = true := by decide +kernel
set_option maxRecDepth 1000000 in
theorem ci_a72_0 : e2_idl 3 (al_a72_0.set 5 (9, 0, 0)) = true := by decide +kernel
set_option maxRecDepth 1000000 in
theorem cj_a72_0 : e2_idh 3 8 h_a72_0 = true := by decide +kernel
theorem cs_a72 (hen : en_ok) (l : Launch) (hh : e2_hand_a l) : e2_smOk l 132 s_a72 := by
  refine e2_conG (H := 129) (n := 2) (C := evd_59) (S := S_a72) (I := I_a72) (fuel := 4000) hen ei_59 (e2_fa ((cs_a38 hen l hh).mono (by decide)) (e2_fa (cs_a70 hen l hh) (e2_fa ((cs_a71 hen l hh).mono (by decide)) e2_fz))) (e2_fa ein_19 (e2_fa ein_20 (e2_fa ein_60 e2_fz))) (by decide) co_a72 fun M d _ hC hcall p e R s m args below meth c Q D cA A ads r0 ha hl0 => ?_
  have L_0 : e2_gdM M p l e R s m args below meth c Q D cA A ads r0 66 al_a72_0 [] E_a72_0 h_a72_0 := by
    refine e2_indL (u := 3) (j := 5) (lo := 2147483648) (hi := 2147483649) (b := 3) (dd := 0) hl0 (by decide) rfl rfl (Or.inr ⟨rfl, rfl⟩) rfl ci_a72_0 cj_a72_0 ?_
    intro r_0 k_0 hk_0 hp_0 hs_0 hn_0
    have hl_0 : r_0.length ≤ 4 := hs_0.len rfl
    have ha_0 := ha.ext hp_0
    exact e2_fromM hen ha_0 hcall (e2_cutA_ok (e2_fa (fun al st E h hc => hn_0 al st E h hc) e2_fz)) (hC []) (X := e2x_59) ex2_59 66 ck_a72_0
  have EN_0 := e2_entL (u := 3) (j := 5) (lo := 2147483648) (hi := 2147483649) hl0 rfl rfl rfl ci_a72_0 cj_a72_0 L_0
  exact e2_from hen ha hcall (e2_cutA_ok (e2_fa (fun al st E h hc => EN_0 al st E h hc) e2_fz)) (hC []) (X := e2x_59) ex2_59 0 ck_a72_e
/-! a73 X3_parseLevel -/
def as_a73 : List ev_V := [(2, 33, 0), (2, 27, 0), (0, 1, 0), (0, 4, 0)]
def E_a73 : e2_E := [(2147483648, 2147583648, 0, 0), (2147483652, 2147483668, 1, 0), (2147483648, 2147485248, 2, 0)]
noncomputable def f_a73 : ev_H := (an635 : e2_Q8)
noncomputable def q_a73_0 : ev_H := (an635 : e2_Q8)
noncomputable def rs_a73 : e2_Rs := [((11, 2147483648, 2147483649), q_a73_0)]
noncomputable def s_a73 : e2_Sm := (59, as_a73, E_a73, f_a73, rs_a73)
noncomputable def S_a73 : List e2_Sm := [s_a38, s_a72]
noncomputable def I_a73 : List e2_In := [(19, 2, e2x_19), (20, 2, e2x_20), (60, 1, e2x_60)]
set_option maxRecDepth 1000000 in
theorem co_a73 : e2_okSB E_a73.length as_a73 f_a73 rs_a73 = true := by decide +kernel
def al_a73_0 : List ev_V := [(2, 33, 0), (2, 27, 0), (0, 1, 0), (0, 4, 0), (0, 30, 0), (1, 3, 4294967296), (9, 0, 0)]
def E_a73_0 : e2_E := [(2147483648, 2147583648, 0, 0), (2147483652, 2147483668, 1, 0), (2147483648, 2147485248, 2, 0), (2147483648, 2147483678, 3, 0)]
noncomputable def h_a73_0 : ev_H := (an635 : e2_Q8)
noncomputable def cl_a73_e : List (Nat × e2_S) := [(66, e2_cutL (al_a73_0.set 5 (11, 2147483648, 2147483678)) 3 (E_a73_0.take 3) h_a73_0)]
set_option maxRecDepth 1000000 in
theorem ck_a73_e : e2_run (e2_cal S_a73 I_a73 4000 2) (e2_fin rs_a73) e2x_59 (e2_bpL cl_a73_e) (e2_cutA cl_a73_e) 4000 (e2_seek e2x_59 0) (e2_al 7 as_a73) [] E_a73 f_a73 = true := by decide +kernel
noncomputable def cl_a73_0 : List (Nat × e2_S) := [(66, e2_cutL (al_a73_0.set 5 (13, 11, 2147483678)) 3 (E_a73_0.take 3) h_a73_0)]
set_option maxRecDepth 1000000 in
theorem ck_a73_0 : e2_runM (e2_cal S_a73 I_a73 4000 2) (e2_fin rs_a73) e2x_59 (e2_bpL cl_a73_0) (e2_cutA cl_a73_0) 4000 (e2_seek e2x_59 66) al_a73_0 [] E_a73_0 h_a73_0 = true := by decide +kernel
set_option maxRecDepth 1000000 in
theorem ci_a73_0 : e2_idl 3 (al_a73_0.set 5 (9, 0, 0)) = true := by decide +kernel
set_option maxRecDepth 1000000 in
theorem cj_a73_0 : e2_idh 3 8 h_a73_0 = true := by decide +kernel
theorem cs_a73 (hen : en_ok) (l : Launch) (hh : e2_hand_a l) : e2_smOk l 135 s_a73 := by
  refine e2_conG (H := 132) (n := 2) (C := evd_59) (S := S_a73) (I := I_a73) (fuel := 4000) hen ei_59 (e2_fa ((cs_a38 hen l hh).mono (by decide)) (e2_fa (cs_a72 hen l hh) e2_fz)) (e2_fa ein_19 (e2_fa ein_20 (e2_fa ein_60 e2_fz))) (by decide) co_a73 fun M d _ hC hcall p e R s m args below meth c Q D cA A ads r0 ha hl0 => ?_
  have L_0 : e2_gdM M p l e R s m args below meth c Q D cA A ads r0 66 al_a73_0 [] E_a73_0 h_a73_0 := by
    refine e2_indL (u := 3) (j := 5) (lo := 2147483648) (hi := 2147483678) (b := 3) (dd := 0) hl0 (by decide) rfl rfl (Or.inr ⟨rfl, rfl⟩) rfl ci_a73_0 cj_a73_0 ?_
    intro r_0 k_0 hk_0 hp_0 hs_0 hn_0
    have hl_0 : r_0.length ≤ 4 := hs_0.len rfl
    have ha_0 := ha.ext hp_0
    exact e2_fromM hen ha_0 hcall (e2_cutA_ok (e2_fa (fun al st E h hc => hn_0 al st E h hc) e2_fz)) (hC []) (X := e2x_59) ex2_59 66 ck_a73_0
  have EN_0 := e2_entL (u := 3) (j := 5) (lo := 2147483648) (hi := 2147483678) hl0 rfl rfl rfl ci_a73_0 cj_a73_0 L_0
  exact e2_from hen ha hcall (e2_cutA_ok (e2_fa (fun al st E h hc => EN_0 al st E h hc) e2_fz)) (hC []) (X := e2x_59) ex2_59 0 ck_a73_e
/-! a74 X3_parseLevel -/
def as_a74 : List ev_V := [(2, 33, 0), (2, 27, 0), (0, 0, 0), (0, 4, 0)]
def E_a74 : e2_E := [(2147483648, 2147583648, 0, 0), (2147483652, 2147483668, 1, 0), (2147483648, 2147485248, 2, 0)]
noncomputable def f_a74 : ev_H := (an635 : e2_Q8)
noncomputable def q_a74_0 : ev_H := (an635 : e2_Q8)
noncomputable def rs_a74 : e2_Rs := [((11, 2147483648, 2147483649), q_a74_0)]
noncomputable def s_a74 : e2_Sm := (59, as_a74, E_a74, f_a74, rs_a74)
noncomputable def S_a74 : List e2_Sm := [s_a38, s_a73]
noncomputable def I_a74 : List e2_In := [(19, 2, e2x_19), (20, 2, e2x_20), (60, 1, e2x_60)]
set_option maxRecDepth 1000000 in
theorem co_a74 : e2_okSB E_a74.length as_a74 f_a74 rs_a74 = true := by decide +kernel
def al_a74_0 : List ev_V := [(2, 33, 0), (2, 27, 0), (0, 0, 0), (0, 4, 0), (0, 30, 0), (1, 3, 4294967296), (9, 0, 0)]
def E_a74_0 : e2_E := [(2147483648, 2147583648, 0, 0), (2147483652, 2147483668, 1, 0), (2147483648, 2147485248, 2, 0), (2147483648, 2147483678, 3, 0)]
noncomputable def h_a74_0 : ev_H := (an635 : e2_Q8)
noncomputable def cl_a74_e : List (Nat × e2_S) := [(66, e2_cutL (al_a74_0.set 5 (11, 2147483648, 2147483678)) 3 (E_a74_0.take 3) h_a74_0)]
set_option maxRecDepth 1000000 in
theorem ck_a74_e : e2_run (e2_cal S_a74 I_a74 4000 2) (e2_fin rs_a74) e2x_59 (e2_bpL cl_a74_e) (e2_cutA cl_a74_e) 4000 (e2_seek e2x_59 0) (e2_al 7 as_a74) [] E_a74 f_a74 = true := by decide +kernel
noncomputable def cl_a74_0 : List (Nat × e2_S) := [(66, e2_cutL (al_a74_0.set 5 (13, 11, 2147483678)) 3 (E_a74_0.take 3) h_a74_0)]
set_option maxRecDepth 1000000 in
theorem ck_a74_0 : e2_runM (e2_cal S_a74 I_a74 4000 2) (e2_fin rs_a74) e2x_59 (e2_bpL cl_a74_0) (e2_cutA cl_a74_0) 4000 (e2_seek e2x_59 66) al_a74_0 [] E_a74_0 h_a74_0 = true := by decide +kernel
set_option maxRecDepth 1000000 in
theorem ci_a74_0 : e2_idl 3 (al_a74_0.set 5 (9, 0, 0)) = true := by decide +kernel
set_option maxRecDepth 1000000 in
theorem cj_a74_0 : e2_idh 3 8 h_a74_0 = true := by decide +kernel
theorem cs_a74 (hen : en_ok) (l : Launch) (hh : e2_hand_a l) : e2_smOk l 138 s_a74 := by
  refine e2_conG (H := 135) (n := 2) (C := evd_59) (S := S_a74) (I := I_a74) (fuel := 4000) hen ei_59 (e2_fa ((cs_a38 hen l hh).mono (by decide)) (e2_fa (cs_a73 hen l hh) e2_fz)) (e2_fa ein_19 (e2_fa ein_20 (e2_fa ein_60 e2_fz))) (by decide) co_a74 fun M d _ hC hcall p e R s m args below meth c Q D cA A ads r0 ha hl0 => ?_
  have L_0 : e2_gdM M p l e R s m args below meth c Q D cA A ads r0 66 al_a74_0 [] E_a74_0 h_a74_0 := by
    refine e2_indL (u := 3) (j := 5) (lo := 2147483648) (hi := 2147483678) (b := 3) (dd := 0) hl0 (by decide) rfl rfl (Or.inr ⟨rfl, rfl⟩) rfl ci_a74_0 cj_a74_0 ?_
    intro r_0 k_0 hk_0 hp_0 hs_0 hn_0
    have hl_0 : r_0.length ≤ 4 := hs_0.len rfl
    have ha_0 := ha.ext hp_0
    exact e2_fromM hen ha_0 hcall (e2_cutA_ok (e2_fa (fun al st E h hc => hn_0 al st E h hc) e2_fz)) (hC []) (X := e2x_59) ex2_59 66 ck_a74_0
  have EN_0 := e2_entL (u := 3) (j := 5) (lo := 2147483648) (hi := 2147483678) hl0 rfl rfl rfl ci_a74_0 cj_a74_0 L_0
  exact e2_from hen ha hcall (e2_cutA_ok (e2_fa (fun al st E h hc => EN_0 al st E h hc) e2_fz)) (hC []) (X := e2x_59) ex2_59 0 ck_a74_e
/-! a75 X3_parseUnit -/
def as_a75 : List ev_V := [(2, 33, 0), (2, 27, 0), (0, 3, 0)]
def E_a75 : e2_E := [(2147483648, 2147583648, 0, 0), (2147483652, 2147483668, 1, 0), (2147483648, 2147485248, 2, 0)]
noncomputable def f_a75 : ev_H := (an635 : e2_Q8)
noncomputable def q_a75_0 : ev_H := (an635 : e2_Q8)
noncomputable def rs_a75 : e2_Rs := [((11, 2147483648, 2147483649), q_a75_0)]
noncomputable def s_a75 : e2_Sm := (62, as_a75, E_a75, f_a75, rs_a75)
noncomputable def S_a75 : List e2_Sm := [s_a38, s_a39, s_a74]
noncomputable def I_a75 : List e2_In := [(18, 2, e2x_18), (19, 2, e2x_19), (20, 2, e2x_20), (43, 2, e2x_43), (44, 3, e2x_44)]
set_option maxRecDepth 1000000 in
theorem ck_a75 : e2_run (e2_cal S_a75 I_a75 4000 2) (e2_fin rs_a75) e2x_62 (fun _ => false) (fun _ _ _ _ _ => false) 4000 (e2_seek e2x_62 0) (e2_al 7 as_a75) [] E_a75 f_a75 = true := by decide +kernel
set_option maxRecDepth 1000000 in
theorem co_a75 : e2_okSB E_a75.length as_a75 f_a75 rs_a75 = true := by decide +kernel
theorem cs_a75 (hen : en_ok) (l : Launch) (hh : e2_hand_a l) : e2_smOk l 141 s_a75 := e2_con0 (H := 138) (n := 2) (C := evd_62) (S := S_a75) (I := I_a75) (fuel := 4000) [] hen ei_62 (e2_fa ((cs_a38 hen l hh).mono (by decide)) (e2_fa ((cs_a39 hen l hh).mono (by decide)) (e2_fa (cs_a74 hen l hh) e2_fz))) (e2_fa ein_18 (e2_fa ein_19 (e2_fa ein_20 (e2_fa ein_43 (e2_fa ein_44 e2_fz))))) (by decide) co_a75 ex2_62 ck_a75
/-! a76 X3_parseLevel -/
def as_a76 : List ev_V := [(2, 33, 0), (2, 27, 0), (0, 5, 0), (0, 3, 0)]
def E_a76 : e2_E := [(2147483648, 2147583648, 0, 0), (2147483652, 2147483668, 1, 0), (2147483648, 2147485248, 2, 0)]
noncomputable def f_a76 : ev_H := (an635 : e2_Q8)
noncomputable def q_a76_0 : ev_H := (an635 : e2_Q8)
noncomputable def rs_a76 : e2_Rs := [((11, 2147483648, 2147483649), q_a76_0)]
noncomputable def s_a76 : e2_Sm := (59, as_a76, E_a76, f_a76, rs_a76)
noncomputable def S_a76 : List e2_Sm := [s_a75]
noncomputable def I_a76 : List e2_In := []
set_option maxRecDepth 1000000 in
theorem ck_a76 : e2_run (e2_cal S_a76 I_a76 4000 0) (e2_fin rs_a76) e2x_59 (fun _ => false) (fun _ _ _ _ _ => false) 4000 (e2_seek e2x_59 0) (e2_al 7 as_a76) [] E_a76 f_a76 = true := by decide +kernel
set_option maxRecDepth 1000000 in
theorem co_a76 : e2_okSB E_a76.length as_a76 f_a76 rs_a76 = true := by decide +kernel
theorem cs_a76 (hen : en_ok) (l : Launch) (hh : e2_hand_a l) : e2_smOk l 142 s_a76 := e2_con0 (H := 141) (n := 0) (C := evd_59) (S := S_a76) (I := I_a76) (fuel := 4000) [] hen ei_59 (e2_fa (cs_a75 hen l hh) e2_fz) e2_fz (by decide) co_a76 ex2_59 ck_a76
/-! a77 X3_parseLevel -/
def as_a77 : List ev_V := [(2, 33, 0), (2, 27, 0), (0, 4, 0), (0, 3, 0)]
def E_a77 : e2_E := [(2147483648, 2147583648, 0, 0), (2147483652, 2147483668, 1, 0), (2147483648, 2147485248, 2, 0)]
noncomputable def f_a77 : ev_H := (an635 : e2_Q8)
noncomputable def q_a77_0 : ev_H := (an635 : e2_Q8)
noncomputable def rs_a77 : e2_Rs := [((11, 2147483648, 2147483649), q_a77_0)]
noncomputable def s_a77 : e2_Sm := (59, as_a77, E_a77, f_a77, rs_a77)
noncomputable def S_a77 : List e2_Sm := [s_a38, s_a76]
noncomputable def I_a77 : List e2_In := [(19, 2, e2x_19), (20, 2, e2x_20), (60, 1, e2x_60)]
set_option maxRecDepth 1000000 in
theorem co_a77 : e2_okSB E_a77.length as_a77 f_a77 rs_a77 = true := by decide +kernel
def al_a77_0 : List ev_V := [(2, 33, 0), (2, 27, 0), (0, 4, 0), (0, 3, 0), (0, 30, 0), (1, 3, 4294967296), (9, 0, 0)]
def E_a77_0 : e2_E := [(2147483648, 2147583648, 0, 0), (2147483652, 2147483668, 1, 0), (2147483648, 2147485248, 2, 0), (2147483648, 2147483678, 3, 0)]
noncomputable def h_a77_0 : ev_H := (an635 : e2_Q8)
noncomputable def cl_a77_e : List (Nat × e2_S) := [(66, e2_cutL (al_a77_0.set 5 (11, 2147483648, 2147483678)) 3 (E_a77_0.take 3) h_a77_0)]
set_option maxRecDepth 1000000 in
theorem ck_a77_e : e2_run (e2_cal S_a77 I_a77 4000 2) (e2_fin rs_a77) e2x_59 (e2_bpL cl_a77_e) (e2_cutA cl_a77_e) 4000 (e2_seek e2x_59 0) (e2_al 7 as_a77) [] E_a77 f_a77 = true := by decide +kernel
noncomputable def cl_a77_0 : List (Nat × e2_S) := [(66, e2_cutL (al_a77_0.set 5 (13, 11, 2147483678)) 3 (E_a77_0.take 3) h_a77_0)]
set_option maxRecDepth 1000000 in
theorem ck_a77_0 : e2_runM (e2_cal S_a77 I_a77 4000 2) (e2_fin rs_a77) e2x_59 (e2_bpL cl_a77_0) (e2_cutA cl_a77_0) 4000 (e2_seek e2x_59 66) al_a77_0 [] E_a77_0 h_a77_0 = true := by decide +kernel
set_option maxRecDepth 1000000 in
theorem ci_a77_0 : e2_idl 3 (al_a77_0.set 5 (9, 0, 0)) = true := by decide +kernel
set_option maxRecDepth 1000000 in
theorem cj_a77_0 : e2_idh 3 8 h_a77_0 = true := by decide +kernel
theorem cs_a77 (hen : en_ok) (l : Launch) (hh : e2_hand_a l) : e2_smOk l 145 s_a77 := by
  refine e2_conG (H := 142) (n := 2) (C := evd_59) (S := S_a77) (I := I_a77) (fuel := 4000) hen ei_59 (e2_fa ((cs_a38 hen l hh).mono (by decide)) (e2_fa (cs_a76 hen l hh) e2_fz)) (e2_fa ein_19 (e2_fa ein_20 (e2_fa ein_60 e2_fz))) (by decide) co_a77 fun M d _ hC hcall p e R s m args below meth c Q D cA A ads r0 ha hl0 => ?_
  have L_0 : e2_gdM M p l e R s m args below meth c Q D cA A ads r0 66 al_a77_0 [] E_a77_0 h_a77_0 := by
    refine e2_indL (u := 3) (j := 5) (lo := 2147483648) (hi := 2147483678) (b := 3) (dd := 0) hl0 (by decide) rfl rfl (Or.inr ⟨rfl, rfl⟩) rfl ci_a77_0 cj_a77_0 ?_
    intro r_0 k_0 hk_0 hp_0 hs_0 hn_0
    have hl_0 : r_0.length ≤ 4 := hs_0.len rfl
    have ha_0 := ha.ext hp_0
    exact e2_fromM hen ha_0 hcall (e2_cutA_ok (e2_fa (fun al st E h hc => hn_0 al st E h hc) e2_fz)) (hC []) (X := e2x_59) ex2_59 66 ck_a77_0
  have EN_0 := e2_entL (u := 3) (j := 5) (lo := 2147483648) (hi := 2147483678) hl0 rfl rfl rfl ci_a77_0 cj_a77_0 L_0
  exact e2_from hen ha hcall (e2_cutA_ok (e2_fa (fun al st E h hc => EN_0 al st E h hc) e2_fz)) (hC []) (X := e2x_59) ex2_59 0 ck_a77_e
/-! a78 X3_parseLevel -/
def as_a78 : List ev_V := [(2, 33, 0), (2, 27, 0), (0, 3, 0), (0, 3, 0)]
def E_a78 : e2_E := [(2147483648, 2147583648, 0, 0), (2147483652, 2147483668, 1, 0), (2147483648, 2147485248, 2, 0)]
noncomputable def f_a78 : ev_H := (an635 : e2_Q8)
noncomputable def q_a78_0 : ev_H := (an635 : e2_Q8)
noncomputable def rs_a78 : e2_Rs := [((11, 2147483648, 2147483649), q_a78_0)]
noncomputable def s_a78 : e2_Sm := (59, as_a78, E_a78, f_a78, rs_a78)
noncomputable def S_a78 : List e2_Sm := [s_a38, s_a77]
noncomputable def I_a78 : List e2_In := [(19, 2, e2x_19), (20, 2, e2x_20), (60, 1, e2x_60)]
set_option maxRecDepth 1000000 in
theorem co_a78 : e2_okSB E_a78.length as_a78 f_a78 rs_a78 = true := by decide +kernel
def al_a78_0 : List ev_V := [(2, 33, 0), (2, 27, 0), (0, 3, 0), (0, 3, 0), (0, 30, 0), (1, 3, 4294967296), (9, 0, 0)]
def E_a78_0 : e2_E := [(2147483648, 2147583648, 0, 0), (2147483652, 2147483668, 1, 0), (2147483648, 2147485248, 2, 0), (2147483648, 2147483678, 3, 0)]
noncomputable def h_a78_0 : ev_H := (an635 : e2_Q8)
noncomputable def cl_a78_e : List (Nat × e2_S) := [(66, e2_cutL (al_a78_0.set 5 (11, 2147483648, 2147483678)) 3 (E_a78_0.take 3) h_a78_0)]
set_option maxRecDepth 1000000 in
theorem ck_a78_e : e2_run (e2_cal S_a78 I_a78 4000 2) (e2_fin rs_a78) e2x_59 (e2_bpL cl_a78_e) (e2_cutA cl_a78_e) 4000 (e2_seek e2x_59 0) (e2_al 7 as_a78) [] E_a78 f_a78 = true := by decide +kernel
noncomputable def cl_a78_0 : List (Nat × e2_S) := [(66, e2_cutL (al_a78_0.set 5 (13, 11, 2147483678)) 3 (E_a78_0.take 3) h_a78_0)]
set_option maxRecDepth 1000000 in
theorem ck_a78_0 : e2_runM (e2_cal S_a78 I_a78 4000 2) (e2_fin rs_a78) e2x_59 (e2_bpL cl_a78_0) (e2_cutA cl_a78_0) 4000 (e2_seek e2x_59 66) al_a78_0 [] E_a78_0 h_a78_0 = true := by decide +kernel
set_option maxRecDepth 1000000 in
theorem ci_a78_0 : e2_idl 3 (al_a78_0.set 5 (9, 0, 0)) = true := by decide +kernel
set_option maxRecDepth 1000000 in
theorem cj_a78_0 : e2_idh 3 8 h_a78_0 = true := by decide +kernel
theorem cs_a78 (hen : en_ok) (l : Launch) (hh : e2_hand_a l) : e2_smOk l 148 s_a78 := by
  refine e2_conG (H := 145) (n := 2) (C := evd_59) (S := S_a78) (I := I_a78) (fuel := 4000) hen ei_59 (e2_fa ((cs_a38 hen l hh).mono (by decide)) (e2_fa (cs_a77 hen l hh) e2_fz)) (e2_fa ein_19 (e2_fa ein_20 (e2_fa ein_60 e2_fz))) (by decide) co_a78 fun M d _ hC hcall p e R s m args below meth c Q D cA A ads r0 ha hl0 => ?_
  have L_0 : e2_gdM M p l e R s m args below meth c Q D cA A ads r0 66 al_a78_0 [] E_a78_0 h_a78_0 := by
    refine e2_indL (u := 3) (j := 5) (lo := 2147483648) (hi := 2147483678) (b := 3) (dd := 0) hl0 (by decide) rfl rfl (Or.inr ⟨rfl, rfl⟩) rfl ci_a78_0 cj_a78_0 ?_
    intro r_0 k_0 hk_0 hp_0 hs_0 hn_0
    have hl_0 : r_0.length ≤ 4 := hs_0.len rfl
    have ha_0 := ha.ext hp_0
    exact e2_fromM hen ha_0 hcall (e2_cutA_ok (e2_fa (fun al st E h hc => hn_0 al st E h hc) e2_fz)) (hC []) (X := e2x_59) ex2_59 66 ck_a78_0
  have EN_0 := e2_entL (u := 3) (j := 5) (lo := 2147483648) (hi := 2147483678) hl0 rfl rfl rfl ci_a78_0 cj_a78_0 L_0
  exact e2_from hen ha hcall (e2_cutA_ok (e2_fa (fun al st E h hc => EN_0 al st E h hc) e2_fz)) (hC []) (X := e2x_59) ex2_59 0 ck_a78_e
/-! a79 X3_parseNot -/
def as_a79 : List ev_V := [(2, 33, 0), (2, 27, 0), (0, 3, 0)]
def E_a79 : e2_E := [(2147483648, 2147583648, 0, 0), (2147483652, 2147483668, 1, 0), (2147483648, 2147485248, 2, 0)]
noncomputable def f_a79 : ev_H := (an635 : e2_Q8)
noncomputable def q_a79_0 : ev_H := (an635 : e2_Q8)
noncomputable def rs_a79 : e2_Rs := [((11, 2147483648, 2147483649), q_a79_0)]
noncomputable def s_a79 : e2_Sm := (61, as_a79, E_a79, f_a79, rs_a79)
noncomputable def S_a79 : List e2_Sm := [s_a38, s_a72]
noncomputable def I_a79 : List e2_In := [(19, 2, e2x_19), (20, 2, e2x_20)]
set_option maxRecDepth 1000000 in
theorem ck_a79 : e2_run (e2_cal S_a79 I_a79 4000 2) (e2_fin rs_a79) e2x_61 (fun _ => false) (fun _ _ _ _ _ => false) 4000 (e2_seek e2x_61 0) (e2_al 3 as_a79) [] E_a79 f_a79 = true := by decide +kernel
set_option maxRecDepth 1000000 in
theorem co_a79 : e2_okSB E_a79.length as_a79 f_a79 rs_a79 = true := by decide +kernel
theorem cs_a79 (hen : en_ok) (l : Launch) (hh : e2_hand_a l) : e2_smOk l 135 s_a79 := e2_con0 (H := 132) (n := 2) (C := evd_61) (S := S_a79) (I := I_a79) (fuel := 4000) [] hen ei_61 (e2_fa ((cs_a38 hen l hh).mono (by decide)) (e2_fa (cs_a72 hen l hh) e2_fz)) (e2_fa ein_19 (e2_fa ein_20 e2_fz)) (by decide) co_a79 ex2_61 ck_a79
/-! a80 X3_parseLevel -/
def as_a80 : List ev_V := [(2, 33, 0), (2, 27, 0), (0, 2, 0), (0, 3, 0)]
def E_a80 : e2_E := [(2147483648, 2147583648, 0, 0), (2147483652, 2147483668, 1, 0), (2147483648, 2147485248, 2, 0)]
noncomputable def f_a80 : ev_H := (an635 : e2_Q8)
noncomputable def q_a80_0 : ev_H := (an635 : e2_Q8)
noncomputable def rs_a80 : e2_Rs := [((11, 2147483648, 2147483649), q_a80_0)]
noncomputable def s_a80 : e2_Sm := (59, as_a80, E_a80, f_a80, rs_a80)
noncomputable def S_a80 : List e2_Sm := [s_a38, s_a78, s_a79]
noncomputable def I_a80 : List e2_In := [(19, 2, e2x_19), (20, 2, e2x_20), (60, 1, e2x_60)]
set_option maxRecDepth 1000000 in
theorem co_a80 : e2_okSB E_a80.length as_a80 f_a80 rs_a80 = true := by decide +kernel
def al_a80_0 : List ev_V := [(2, 33, 0), (2, 27, 0), (0, 2, 0), (0, 3, 0), (0, 1, 0), (1, 3, 4294967296), (9, 0, 0)]
def E_a80_0 : e2_E := [(2147483648, 2147583648, 0, 0), (2147483652, 2147483668, 1, 0), (2147483648, 2147485248, 2, 0), (2147483648, 2147483649, 3, 0)]
noncomputable def h_a80_0 : ev_H := (an635 : e2_Q8)
noncomputable def cl_a80_e : List (Nat × e2_S) := [(66, e2_cutL (al_a80_0.set 5 (11, 2147483648, 2147483649)) 3 (E_a80_0.take 3) h_a80_0)]
set_option maxRecDepth 1000000 in
theorem ck_a80_e : e2_run (e2_cal S_a80 I_a80 4000 2) (e2_fin rs_a80) e2x_59 (e2_bpL cl_a80_e) (e2_cutA cl_a80_e) 4000 (e2_seek e2x_59 0) (e2_al 7 as_a80) [] E_a80 f_a80 = true := by decide +kernel
noncomputable def cl_a80_0 : List (Nat × e2_S) := [(66, e2_cutL (al_a80_0.set 5 (13, 11, 2147483649)) 3 (E_a80_0.take 3) h_a80_0)]
set_option maxRecDepth 1000000 in
theorem ck_a80_0 : e2_runM (e2_cal S_a80 I_a80 4000 2) (e2_fin rs_a80) e2x_59 (e2_bpL cl_a80_0) (e2_cutA cl_a80_0) 4000 (e2_seek e2x_59 66) al_a80_0 [] E_a80_0 h_a80_0 = true := by decide +kernel
set_option maxRecDepth 1000000 in
theorem ci_a80_0 : e2_idl 3 (al_a80_0.set 5 (9, 0, 0)) = true := by decide +kernel
set_option maxRecDepth 1000000 in
theorem cj_a80_0 : e2_idh 3 8 h_a80_0 = true := by decide +kernel
theorem cs_a80 (hen : en_ok) (l : Launch) (hh : e2_hand_a l) : e2_smOk l 151 s_a80 := by
  refine e2_conG (H := 148) (n := 2) (C := evd_59) (S := S_a80) (I := I_a80) (fuel := 4000) hen ei_59 (e2_fa ((cs_a38 hen l hh).mono (by decide)) (e2_fa (cs_a78 hen l hh) (e2_fa ((cs_a79 hen l hh).mono (by decide)) e2_fz))) (e2_fa ein_19 (e2_fa ein_20 (e2_fa ein_60 e2_fz))) (by decide) co_a80 fun M d _ hC hcall p e R s m args below meth c Q D cA A ads r0 ha hl0 => ?_
  have L_0 : e2_gdM M p l e R s m args below meth c Q D cA A ads r0 66 al_a80_0 [] E_a80_0 h_a80_0 := by
    refine e2_indL (u := 3) (j := 5) (lo := 2147483648) (hi := 2147483649) (b := 3) (dd := 0) hl0 (by decide) rfl rfl (Or.inr ⟨rfl, rfl⟩) rfl ci_a80_0 cj_a80_0 ?_
    intro r_0 k_0 hk_0 hp_0 hs_0 hn_0
    have hl_0 : r_0.length ≤ 4 := hs_0.len rfl
    have ha_0 := ha.ext hp_0
    exact e2_fromM hen ha_0 hcall (e2_cutA_ok (e2_fa (fun al st E h hc => hn_0 al st E h hc) e2_fz)) (hC []) (X := e2x_59) ex2_59 66 ck_a80_0
  have EN_0 := e2_entL (u := 3) (j := 5) (lo := 2147483648) (hi := 2147483649) hl0 rfl rfl rfl ci_a80_0 cj_a80_0 L_0
  exact e2_from hen ha hcall (e2_cutA_ok (e2_fa (fun al st E h hc => EN_0 al st E h hc) e2_fz)) (hC []) (X := e2x_59) ex2_59 0 ck_a80_e
/-! a81 X3_parseLevel -/
def as_a81 : List ev_V := [(2, 33, 0), (2, 27, 0), (0, 1, 0), (0, 3, 0)]
def E_a81 : e2_E := [(2147483648, 2147583648, 0, 0), (2147483652, 2147483668, 1, 0), (2147483648, 2147485248, 2, 0)]
noncomputable def f_a81 : ev_H := (an635 : e2_Q8)
noncomputable def q_a81_0 : ev_H := (an635 : e2_Q8)
noncomputable def rs_a81 : e2_Rs := [((11, 2147483648, 2147483649), q_a81_0)]
noncomputable def s_a81 : e2_Sm := (59, as_a81, E_a81, f_a81, rs_a81)
noncomputable def S_a81 : List e2_Sm := [s_a38, s_a80]
noncomputable def I_a81 : List e2_In := [(19, 2, e2x_19), (20, 2, e2x_20), (60, 1, e2x_60)]
set_option maxRecDepth 1000000 in
theorem co_a81 : e2_okSB E_a81.length as_a81 f_a81 rs_a81 = true := by decide +kernel
def al_a81_0 : List ev_V := [(2, 33, 0), (2, 27, 0), (0, 1, 0), (0, 3, 0), (0, 30, 0), (1, 3, 4294967296), (9, 0, 0)]
def E_a81_0 : e2_E := [(2147483648, 2147583648, 0, 0), (2147483652, 2147483668, 1, 0), (2147483648, 2147485248, 2, 0), (2147483648, 2147483678, 3, 0)]
noncomputable def h_a81_0 : ev_H := (an635 : e2_Q8)
noncomputable def cl_a81_e : List (Nat × e2_S) := [(66, e2_cutL (al_a81_0.set 5 (11, 2147483648, 2147483678)) 3 (E_a81_0.take 3) h_a81_0)]
set_option maxRecDepth 1000000 in
theorem ck_a81_e : e2_run (e2_cal S_a81 I_a81 4000 2) (e2_fin rs_a81) e2x_59 (e2_bpL cl_a81_e) (e2_cutA cl_a81_e) 4000 (e2_seek e2x_59 0) (e2_al 7 as_a81) [] E_a81 f_a81 = true := by decide +kernel
noncomputable def cl_a81_0 : List (Nat × e2_S) := [(66, e2_cutL (al_a81_0.set 5 (13, 11, 2147483678)) 3 (E_a81_0.take 3) h_a81_0)]
set_option maxRecDepth 1000000 in
theorem ck_a81_0 : e2_runM (e2_cal S_a81 I_a81 4000 2) (e2_fin rs_a81) e2x_59 (e2_bpL cl_a81_0) (e2_cutA cl_a81_0) 4000 (e2_seek e2x_59 66) al_a81_0 [] E_a81_0 h_a81_0 = true := by decide +kernel
set_option maxRecDepth 1000000 in
theorem ci_a81_0 : e2_idl 3 (al_a81_0.set 5 (9, 0, 0)) = true := by decide +kernel
set_option maxRecDepth 1000000 in
theorem cj_a81_0 : e2_idh 3 8 h_a81_0 = true := by decide +kernel
theorem cs_a81 (hen : en_ok) (l : Launch) (hh : e2_hand_a l) : e2_smOk l 154 s_a81 := by
  refine e2_conG (H := 151) (n := 2) (C := evd_59) (S := S_a81) (I := I_a81) (fuel := 4000) hen ei_59 (e2_fa ((cs_a38 hen l hh).mono (by decide)) (e2_fa (cs_a80 hen l hh) e2_fz)) (e2_fa ein_19 (e2_fa ein_20 (e2_fa ein_60 e2_fz))) (by decide) co_a81 fun M d _ hC hcall p e R s m args below meth c Q D cA A ads r0 ha hl0 => ?_
  have L_0 : e2_gdM M p l e R s m args below meth c Q D cA A ads r0 66 al_a81_0 [] E_a81_0 h_a81_0 := by
    refine e2_indL (u := 3) (j := 5) (lo := 2147483648) (hi := 2147483678) (b := 3) (dd := 0) hl0 (by decide) rfl rfl (Or.inr ⟨rfl, rfl⟩) rfl ci_a81_0 cj_a81_0 ?_
    intro r_0 k_0 hk_0 hp_0 hs_0 hn_0
    have hl_0 : r_0.length ≤ 4 := hs_0.len rfl
    have ha_0 := ha.ext hp_0
    exact e2_fromM hen ha_0 hcall (e2_cutA_ok (e2_fa (fun al st E h hc => hn_0 al st E h hc) e2_fz)) (hC []) (X := e2x_59) ex2_59 66 ck_a81_0
  have EN_0 := e2_entL (u := 3) (j := 5) (lo := 2147483648) (hi := 2147483678) hl0 rfl rfl rfl ci_a81_0 cj_a81_0 L_0
  exact e2_from hen ha hcall (e2_cutA_ok (e2_fa (fun al st E h hc => EN_0 al st E h hc) e2_fz)) (hC []) (X := e2x_59) ex2_59 0 ck_a81_e
/-! a82 X3_parseLevel -/
def as_a82 : List ev_V := [(2, 33, 0), (2, 27, 0), (0, 0, 0), (0, 3, 0)]
def E_a82 : e2_E := [(2147483648, 2147583648, 0, 0), (2147483652, 2147483668, 1, 0), (2147483648, 2147485248, 2, 0)]
noncomputable def f_a82 : ev_H := (an635 : e2_Q8)
noncomputable def q_a82_0 : ev_H := (an635 : e2_Q8)
noncomputable def rs_a82 : e2_Rs := [((11, 2147483648, 2147483649), q_a82_0)]
noncomputable def s_a82 : e2_Sm := (59, as_a82, E_a82, f_a82, rs_a82)
noncomputable def S_a82 : List e2_Sm := [s_a38, s_a81]
noncomputable def I_a82 : List e2_In := [(19, 2, e2x_19), (20, 2, e2x_20), (60, 1, e2x_60)]
set_option maxRecDepth 1000000 in
theorem co_a82 : e2_okSB E_a82.length as_a82 f_a82 rs_a82 = true := by decide +kernel
def al_a82_0 : List ev_V := [(2, 33, 0), (2, 27, 0), (0, 0, 0), (0, 3, 0), (0, 30, 0), (1, 3, 4294967296), (9, 0, 0)]
def E_a82_0 : e2_E := [(2147483648, 2147583648, 0, 0), (2147483652, 2147483668, 1, 0), (2147483648, 2147485248, 2, 0), (2147483648, 2147483678, 3, 0)]
noncomputable def h_a82_0 : ev_H := (an635 : e2_Q8)
noncomputable def cl_a82_e : List (Nat × e2_S) := [(66, e2_cutL (al_a82_0.set 5 (11, 2147483648, 2147483678)) 3 (E_a82_0.take 3) h_a82_0)]
set_option maxRecDepth 1000000 in
theorem ck_a82_e : e2_run (e2_cal S_a82 I_a82 4000 2) (e2_fin rs_a82) e2x_59 (e2_bpL cl_a82_e) (e2_cutA cl_a82_e) 4000 (e2_seek e2x_59 0) (e2_al 7 as_a82) [] E_a82 f_a82 = true := by decide +kernel
noncomputable def cl_a82_0 : List (Nat × e2_S) := [(66, e2_cutL (al_a82_0.set 5 (13, 11, 2147483678)) 3 (E_a82_0.take 3) h_a82_0)]
set_option maxRecDepth 1000000 in
theorem ck_a82_0 : e2_runM (e2_cal S_a82 I_a82 4000 2) (e2_fin rs_a82) e2x_59 (e2_bpL cl_a82_0) (e2_cutA cl_a82_0) 4000 (e2_seek e2x_59 66) al_a82_0 [] E_a82_0 h_a82_0 = true := by decide +kernel
set_option maxRecDepth 1000000 in
theorem ci_a82_0 : e2_idl 3 (al_a82_0.set 5 (9, 0, 0)) = true := by decide +kernel
set_option maxRecDepth 1000000 in
theorem cj_a82_0 : e2_idh 3 8 h_a82_0 = true := by decide +kernel
theorem cs_a82 (hen : en_ok) (l : Launch) (hh : e2_hand_a l) : e2_smOk l 157 s_a82 := by
  refine e2_conG (H := 154) (n := 2) (C := evd_59) (S := S_a82) (I := I_a82) (fuel := 4000) hen ei_59 (e2_fa ((cs_a38 hen l hh).mono (by decide)) (e2_fa (cs_a81 hen l hh) e2_fz)) (e2_fa ein_19 (e2_fa ein_20 (e2_fa ein_60 e2_fz))) (by decide) co_a82 fun M d _ hC hcall p e R s m args below meth c Q D cA A ads r0 ha hl0 => ?_
  have L_0 : e2_gdM M p l e R s m args below meth c Q D cA A ads r0 66 al_a82_0 [] E_a82_0 h_a82_0 := by
    refine e2_indL (u := 3) (j := 5) (lo := 2147483648) (hi := 2147483678) (b := 3) (dd := 0) hl0 (by decide) rfl rfl (Or.inr ⟨rfl, rfl⟩) rfl ci_a82_0 cj_a82_0 ?_
    intro r_0 k_0 hk_0 hp_0 hs_0 hn_0
    have hl_0 : r_0.length ≤ 4 := hs_0.len rfl
    have ha_0 := ha.ext hp_0
    exact e2_fromM hen ha_0 hcall (e2_cutA_ok (e2_fa (fun al st E h hc => hn_0 al st E h hc) e2_fz)) (hC []) (X := e2x_59) ex2_59 66 ck_a82_0
  have EN_0 := e2_entL (u := 3) (j := 5) (lo := 2147483648) (hi := 2147483678) hl0 rfl rfl rfl ci_a82_0 cj_a82_0 L_0
  exact e2_from hen ha hcall (e2_cutA_ok (e2_fa (fun al st E h hc => EN_0 al st E h hc) e2_fz)) (hC []) (X := e2x_59) ex2_59 0 ck_a82_e
/-! a83 X3_parseUnit -/
def as_a83 : List ev_V := [(2, 33, 0), (2, 27, 0), (0, 2, 0)]
def E_a83 : e2_E := [(2147483648, 2147583648, 0, 0), (2147483652, 2147483668, 1, 0), (2147483648, 2147485248, 2, 0)]
noncomputable def f_a83 : ev_H := (an635 : e2_Q8)
noncomputable def q_a83_0 : ev_H := (an635 : e2_Q8)
noncomputable def rs_a83 : e2_Rs := [((11, 2147483648, 2147483649), q_a83_0)]
noncomputable def s_a83 : e2_Sm := (62, as_a83, E_a83, f_a83, rs_a83)
noncomputable def S_a83 : List e2_Sm := [s_a38, s_a39, s_a82]
noncomputable def I_a83 : List e2_In := [(18, 2, e2x_18), (19, 2, e2x_19), (20, 2, e2x_20), (43, 2, e2x_43), (44, 3, e2x_44)]
set_option maxRecDepth 1000000 in
theorem ck_a83 : e2_run (e2_cal S_a83 I_a83 4000 2) (e2_fin rs_a83) e2x_62 (fun _ => false) (fun _ _ _ _ _ => false) 4000 (e2_seek e2x_62 0) (e2_al 7 as_a83) [] E_a83 f_a83 = true := by decide +kernel
set_option maxRecDepth 1000000 in
theorem co_a83 : e2_okSB E_a83.length as_a83 f_a83 rs_a83 = true := by decide +kernel
theorem cs_a83 (hen : en_ok) (l : Launch) (hh : e2_hand_a l) : e2_smOk l 160 s_a83 := e2_con0 (H := 157) (n := 2) (C := evd_62) (S := S_a83) (I := I_a83) (fuel := 4000) [] hen ei_62 (e2_fa ((cs_a38 hen l hh).mono (by decide)) (e2_fa ((cs_a39 hen l hh).mono (by decide)) (e2_fa (cs_a82 hen l hh) e2_fz))) (e2_fa ein_18 (e2_fa ein_19 (e2_fa ein_20 (e2_fa ein_43 (e2_fa ein_44 e2_fz))))) (by decide) co_a83 ex2_62 ck_a83
/-! a84 X3_parseLevel -/
def as_a84 : List ev_V := [(2, 33, 0), (2, 27, 0), (0, 5, 0), (0, 2, 0)]
def E_a84 : e2_E := [(2147483648, 2147583648, 0, 0), (2147483652, 2147483668, 1, 0), (2147483648, 2147485248, 2, 0)]
noncomputable def f_a84 : ev_H := (an635 : e2_Q8)
noncomputable def q_a84_0 : ev_H := (an635 : e2_Q8)
noncomputable def rs_a84 : e2_Rs := [((11, 2147483648, 2147483649), q_a84_0)]
noncomputable def s_a84 : e2_Sm := (59, as_a84, E_a84, f_a84, rs_a84)
noncomputable def S_a84 : List e2_Sm := [s_a83]
noncomputable def I_a84 : List e2_In := []
set_option maxRecDepth 1000000 in
theorem ck_a84 : e2_run (e2_cal S_a84 I_a84 4000 0) (e2_fin rs_a84) e2x_59 (fun _ => false) (fun _ _ _ _ _ => false) 4000 (e2_seek e2x_59 0) (e2_al 7 as_a84) [] E_a84 f_a84 = true := by decide +kernel
set_option maxRecDepth 1000000 in
theorem co_a84 : e2_okSB E_a84.length as_a84 f_a84 rs_a84 = true := by decide +kernel
theorem cs_a84 (hen : en_ok) (l : Launch) (hh : e2_hand_a l) : e2_smOk l 161 s_a84 := e2_con0 (H := 160) (n := 0) (C := evd_59) (S := S_a84) (I := I_a84) (fuel := 4000) [] hen ei_59 (e2_fa (cs_a83 hen l hh) e2_fz) e2_fz (by decide) co_a84 ex2_59 ck_a84
/-! a85 X3_parseLevel -/
def as_a85 : List ev_V := [(2, 33, 0), (2, 27, 0), (0, 4, 0), (0, 2, 0)]
def E_a85 : e2_E := [(2147483648, 2147583648, 0, 0), (2147483652, 2147483668, 1, 0), (2147483648, 2147485248, 2, 0)]
noncomputable def f_a85 : ev_H := (an635 : e2_Q8)
noncomputable def q_a85_0 : ev_H := (an635 : e2_Q8)
noncomputable def rs_a85 : e2_Rs := [((11, 2147483648, 2147483649), q_a85_0)]
noncomputable def s_a85 : e2_Sm := (59, as_a85, E_a85, f_a85, rs_a85)
noncomputable def S_a85 : List e2_Sm := [s_a38, s_a84]
noncomputable def I_a85 : List e2_In := [(19, 2, e2x_19), (20, 2, e2x_20), (60, 1, e2x_60)]
set_option maxRecDepth 1000000 in
theorem co_a85 : e2_okSB E_a85.length as_a85 f_a85 rs_a85 = true := by decide +kernel
def al_a85_0 : List ev_V := [(2, 33, 0), (2, 27, 0), (0, 4, 0), (0, 2, 0), (0, 30, 0), (1, 3, 4294967296), (9, 0, 0)]
def E_a85_0 : e2_E := [(2147483648, 2147583648, 0, 0), (2147483652, 2147483668, 1, 0), (2147483648, 2147485248, 2, 0), (2147483648, 2147483678, 3, 0)]
noncomputable def h_a85_0 : ev_H := (an635 : e2_Q8)
noncomputable def cl_a85_e : List (Nat × e2_S) := [(66, e2_cutL (al_a85_0.set 5 (11, 2147483648, 2147483678)) 3 (E_a85_0.take 3) h_a85_0)]
set_option maxRecDepth 1000000 in
theorem ck_a85_e : e2_run (e2_cal S_a85 I_a85 4000 2) (e2_fin rs_a85) e2x_59 (e2_bpL cl_a85_e) (e2_cutA cl_a85_e) 4000 (e2_seek e2x_59 0) (e2_al 7 as_a85) [] E_a85 f_a85 = true := by decide +kernel
noncomputable def cl_a85_0 : List (Nat × e2_S) := [(66, e2_cutL (al_a85_0.set 5 (13, 11, 2147483678)) 3 (E_a85_0.take 3) h_a85_0)]
set_option maxRecDepth 1000000 in
theorem ck_a85_0 : e2_runM (e2_cal S_a85 I_a85 4000 2) (e2_fin rs_a85) e2x_59 (e2_bpL cl_a85_0) (e2_cutA cl_a85_0) 4000 (e2_seek e2x_59 66) al_a85_0 [] E_a85_0 h_a85_0 = true := by decide +kernel
set_option maxRecDepth 1000000 in
theorem ci_a85_0 : e2_idl 3 (al_a85_0.set 5 (9, 0, 0)) = true := by decide +kernel
set_option maxRecDepth 1000000 in
theorem cj_a85_0 : e2_idh 3 8 h_a85_0 = true := by decide +kernel
theorem cs_a85 (hen : en_ok) (l : Launch) (hh : e2_hand_a l) : e2_smOk l 164 s_a85 := by
  refine e2_conG (H := 161) (n := 2) (C := evd_59) (S := S_a85) (I := I_a85) (fuel := 4000) hen ei_59 (e2_fa ((cs_a38 hen l hh).mono (by decide)) (e2_fa (cs_a84 hen l hh) e2_fz)) (e2_fa ein_19 (e2_fa ein_20 (e2_fa ein_60 e2_fz))) (by decide) co_a85 fun M d _ hC hcall p e R s m args below meth c Q D cA A ads r0 ha hl0 => ?_
  have L_0 : e2_gdM M p l e R s m args below meth c Q D cA A ads r0 66 al_a85_0 [] E_a85_0 h_a85_0 := by
    refine e2_indL (u := 3) (j := 5) (lo := 2147483648) (hi := 2147483678) (b := 3) (dd := 0) hl0 (by decide) rfl rfl (Or.inr ⟨rfl, rfl⟩) rfl ci_a85_0 cj_a85_0 ?_
    intro r_0 k_0 hk_0 hp_0 hs_0 hn_0
    have hl_0 : r_0.length ≤ 4 := hs_0.len rfl
    have ha_0 := ha.ext hp_0
    exact e2_fromM hen ha_0 hcall (e2_cutA_ok (e2_fa (fun al st E h hc => hn_0 al st E h hc) e2_fz)) (hC []) (X := e2x_59) ex2_59 66 ck_a85_0
  have EN_0 := e2_entL (u := 3) (j := 5) (lo := 2147483648) (hi := 2147483678) hl0 rfl rfl rfl ci_a85_0 cj_a85_0 L_0
  exact e2_from hen ha hcall (e2_cutA_ok (e2_fa (fun al st E h hc => EN_0 al st E h hc) e2_fz)) (hC []) (X := e2x_59) ex2_59 0 ck_a85_e
/-! a86 X3_parseLevel -/
def as_a86 : List ev_V := [(2, 33, 0), (2, 27, 0), (0, 3, 0), (0, 2, 0)]
def E_a86 : e2_E := [(2147483648, 2147583648, 0, 0), (2147483652, 2147483668, 1, 0), (2147483648, 2147485248, 2, 0)]
noncomputable def f_a86 : ev_H := (an635 : e2_Q8)
noncomputable def q_a86_0 : ev_H := (an635 : e2_Q8)
noncomputable def rs_a86 : e2_Rs := [((11, 2147483648, 2147483649), q_a86_0)]
noncomputable def s_a86 : e2_Sm := (59, as_a86, E_a86, f_a86, rs_a86)
noncomputable def S_a86 : List e2_Sm := [s_a38, s_a85]
noncomputable def I_a86 : List e2_In := [(19, 2, e2x_19), (20, 2, e2x_20), (60, 1, e2x_60)]
set_option maxRecDepth 1000000 in
theorem co_a86 : e2_okSB E_a86.length as_a86 f_a86 rs_a86 = true := by decide +kernel
def al_a86_0 : List ev_V := [(2, 33, 0), (2, 27, 0), (0, 3, 0), (0, 2, 0), (0, 30, 0), (1, 3, 4294967296), (9, 0, 0)]
def E_a86_0 : e2_E := [(2147483648, 2147583648, 0, 0), (2147483652, 2147483668, 1, 0), (2147483648, 2147485248, 2, 0), (2147483648, 2147483678, 3, 0)]
noncomputable def h_a86_0 : ev_H := (an635 : e2_Q8)
noncomputable def cl_a86_e : List (Nat × e2_S) := [(66, e2_cutL (al_a86_0.set 5 (11, 2147483648, 2147483678)) 3 (E_a86_0.take 3) h_a86_0)]
set_option maxRecDepth 1000000 in
theorem ck_a86_e : e2_run (e2_cal S_a86 I_a86 4000 2) (e2_fin rs_a86) e2x_59 (e2_bpL cl_a86_e) (e2_cutA cl_a86_e) 4000 (e2_seek e2x_59 0) (e2_al 7 as_a86) [] E_a86 f_a86 = true := by decide +kernel
noncomputable def cl_a86_0 : List (Nat × e2_S) := [(66, e2_cutL (al_a86_0.set 5 (13, 11, 2147483678)) 3 (E_a86_0.take 3) h_a86_0)]
set_option maxRecDepth 1000000 in
theorem ck_a86_0 : e2_runM (e2_cal S_a86 I_a86 4000 2) (e2_fin rs_a86) e2x_59 (e2_bpL cl_a86_0) (e2_cutA cl_a86_0) 4000 (e2_seek e2x_59 66) al_a86_0 [] E_a86_0 h_a86_0 = true := by decide +kernel
set_option maxRecDepth 1000000 in
theorem ci_a86_0 : e2_idl 3 (al_a86_0.set 5 (9, 0, 0)) = true := by decide +kernel
set_option maxRecDepth 1000000 in
theorem cj_a86_0 : e2_idh 3 8 h_a86_0 = true := by decide +kernel
theorem cs_a86 (hen : en_ok) (l : Launch) (hh : e2_hand_a l) : e2_smOk l 167 s_a86 := by
  refine e2_conG (H := 164) (n := 2) (C := evd_59) (S := S_a86) (I := I_a86) (fuel := 4000) hen ei_59 (e2_fa ((cs_a38 hen l hh).mono (by decide)) (e2_fa (cs_a85 hen l hh) e2_fz)) (e2_fa ein_19 (e2_fa ein_20 (e2_fa ein_60 e2_fz))) (by decide) co_a86 fun M d _ hC hcall p e R s m args below meth c Q D cA A ads r0 ha hl0 => ?_
  have L_0 : e2_gdM M p l e R s m args below meth c Q D cA A ads r0 66 al_a86_0 [] E_a86_0 h_a86_0 := by
    refine e2_indL (u := 3) (j := 5) (lo := 2147483648) (hi := 2147483678) (b := 3) (dd := 0) hl0 (by decide) rfl rfl (Or.inr ⟨rfl, rfl⟩) rfl ci_a86_0 cj_a86_0 ?_
    intro r_0 k_0 hk_0 hp_0 hs_0 hn_0
    have hl_0 : r_0.length ≤ 4 := hs_0.len rfl
    have ha_0 := ha.ext hp_0
    exact e2_fromM hen ha_0 hcall (e2_cutA_ok (e2_fa (fun al st E h hc => hn_0 al st E h hc) e2_fz)) (hC []) (X := e2x_59) ex2_59 66 ck_a86_0
  have EN_0 := e2_entL (u := 3) (j := 5) (lo := 2147483648) (hi := 2147483678) hl0 rfl rfl rfl ci_a86_0 cj_a86_0 L_0
  exact e2_from hen ha hcall (e2_cutA_ok (e2_fa (fun al st E h hc => EN_0 al st E h hc) e2_fz)) (hC []) (X := e2x_59) ex2_59 0 ck_a86_e
/-! a87 X3_parseNot -/
def as_a87 : List ev_V := [(2, 33, 0), (2, 27, 0), (0, 2, 0)]
def E_a87 : e2_E := [(2147483648, 2147583648, 0, 0), (2147483652, 2147483668, 1, 0), (2147483648, 2147485248, 2, 0)]
noncomputable def f_a87 : ev_H := (an635 : e2_Q8)
noncomputable def q_a87_0 : ev_H := (an635 : e2_Q8)
noncomputable def rs_a87 : e2_Rs := [((11, 2147483648, 2147483649), q_a87_0)]
noncomputable def s_a87 : e2_Sm := (61, as_a87, E_a87, f_a87, rs_a87)
noncomputable def S_a87 : List e2_Sm := [s_a38, s_a80]
noncomputable def I_a87 : List e2_In := [(19, 2, e2x_19), (20, 2, e2x_20)]
set_option maxRecDepth 1000000 in
theorem ck_a87 : e2_run (e2_cal S_a87 I_a87 4000 2) (e2_fin rs_a87) e2x_61 (fun _ => false) (fun _ _ _ _ _ => false) 4000 (e2_seek e2x_61 0) (e2_al 3 as_a87) [] E_a87 f_a87 = true := by decide +kernel
set_option maxRecDepth 1000000 in
theorem co_a87 : e2_okSB E_a87.length as_a87 f_a87 rs_a87 = true := by decide +kernel
theorem cs_a87 (hen : en_ok) (l : Launch) (hh : e2_hand_a l) : e2_smOk l 154 s_a87 := e2_con0 (H := 151) (n := 2) (C := evd_61) (S := S_a87) (I := I_a87) (fuel := 4000) [] hen ei_61 (e2_fa ((cs_a38 hen l hh).mono (by decide)) (e2_fa (cs_a80 hen l hh) e2_fz)) (e2_fa ein_19 (e2_fa ein_20 e2_fz)) (by decide) co_a87 ex2_61 ck_a87
/-! a88 X3_parseLevel -/
def as_a88 : List ev_V := [(2, 33, 0), (2, 27, 0), (0, 2, 0), (0, 2, 0)]
def E_a88 : e2_E := [(2147483648, 2147583648, 0, 0), (2147483652, 2147483668, 1, 0), (2147483648, 2147485248, 2, 0)]
noncomputable def f_a88 : ev_H := (an635 : e2_Q8)
noncomputable def q_a88_0 : ev_H := (an635 : e2_Q8)
noncomputable def rs_a88 : e2_Rs := [((11, 2147483648, 2147483649), q_a88_0)]
noncomputable def s_a88 : e2_Sm := (59, as_a88, E_a88, f_a88, rs_a88)
noncomputable def S_a88 : List e2_Sm := [s_a38, s_a86, s_a87]
noncomputable def I_a88 : List e2_In := [(19, 2, e2x_19), (20, 2, e2x_20), (60, 1, e2x_60)]
set_option maxRecDepth 1000000 in
theorem co_a88 : e2_okSB E_a88.length as_a88 f_a88 rs_a88 = true := by decide +kernel
def al_a88_0 : List ev_V := [(2, 33, 0), (2, 27, 0), (0, 2, 0), (0, 2, 0), (0, 1, 0), (1, 3, 4294967296), (9, 0, 0)]
def E_a88_0 : e2_E := [(2147483648, 2147583648, 0, 0), (2147483652, 2147483668, 1, 0), (2147483648, 2147485248, 2, 0), (2147483648, 2147483649, 3, 0)]
noncomputable def h_a88_0 : ev_H := (an635 : e2_Q8)
noncomputable def cl_a88_e : List (Nat × e2_S) := [(66, e2_cutL (al_a88_0.set 5 (11, 2147483648, 2147483649)) 3 (E_a88_0.take 3) h_a88_0)]
set_option maxRecDepth 1000000 in
theorem ck_a88_e : e2_run (e2_cal S_a88 I_a88 4000 2) (e2_fin rs_a88) e2x_59 (e2_bpL cl_a88_e) (e2_cutA cl_a88_e) 4000 (e2_seek e2x_59 0) (e2_al 7 as_a88) [] E_a88 f_a88 = true := by decide +kernel
noncomputable def cl_a88_0 : List (Nat × e2_S) := [(66, e2_cutL (al_a88_0.set 5 (13, 11, 2147483649)) 3 (E_a88_0.take 3) h_a88_0)]
set_option maxRecDepth 1000000 in
theorem ck_a88_0 : e2_runM (e2_cal S_a88 I_a88 4000 2) (e2_fin rs_a88) e2x_59 (e2_bpL cl_a88_0) (e2_cutA cl_a88_0) 4000 (e2_seek e2x_59 66) al_a88_0 [] E_a88_0 h_a88_0 = true := by decide +kernel
set_option maxRecDepth 1000000 in
theorem ci_a88_0 : e2_idl 3 (al_a88_0.set 5 (9, 0, 0)) = true := by decide +kernel
set_option maxRecDepth 1000000 in
theorem cj_a88_0 : e2_idh 3 8 h_a88_0 = true := by decide +kernel
theorem cs_a88 (hen : en_ok) (l : Launch) (hh : e2_hand_a l) : e2_smOk l 170 s_a88 := by
  refine e2_conG (H := 167) (n := 2) (C := evd_59) (S := S_a88) (I := I_a88) (fuel := 4000) hen ei_59 (e2_fa ((cs_a38 hen l hh).mono (by decide)) (e2_fa (cs_a86 hen l hh) (e2_fa ((cs_a87 hen l hh).mono (by decide)) e2_fz))) (e2_fa ein_19 (e2_fa ein_20 (e2_fa ein_60 e2_fz))) (by decide) co_a88 fun M d _ hC hcall p e R s m args below meth c Q D cA A ads r0 ha hl0 => ?_
  have L_0 : e2_gdM M p l e R s m args below meth c Q D cA A ads r0 66 al_a88_0 [] E_a88_0 h_a88_0 := by
    refine e2_indL (u := 3) (j := 5) (lo := 2147483648) (hi := 2147483649) (b := 3) (dd := 0) hl0 (by decide) rfl rfl (Or.inr ⟨rfl, rfl⟩) rfl ci_a88_0 cj_a88_0 ?_
    intro r_0 k_0 hk_0 hp_0 hs_0 hn_0
    have hl_0 : r_0.length ≤ 4 := hs_0.len rfl
    have ha_0 := ha.ext hp_0
    exact e2_fromM hen ha_0 hcall (e2_cutA_ok (e2_fa (fun al st E h hc => hn_0 al st E h hc) e2_fz)) (hC []) (X := e2x_59) ex2_59 66 ck_a88_0
  have EN_0 := e2_entL (u := 3) (j := 5) (lo := 2147483648) (hi := 2147483649) hl0 rfl rfl rfl ci_a88_0 cj_a88_0 L_0
  exact e2_from hen ha hcall (e2_cutA_ok (e2_fa (fun al st E h hc => EN_0 al st E h hc) e2_fz)) (hC []) (X := e2x_59) ex2_59 0 ck_a88_e
/-! a89 X3_parseLevel -/
def as_a89 : List ev_V := [(2, 33, 0), (2, 27, 0), (0, 1, 0), (0, 2, 0)]
def E_a89 : e2_E := [(2147483648, 2147583648, 0, 0), (2147483652, 2147483668, 1, 0), (2147483648, 2147485248, 2, 0)]
noncomputable def f_a89 : ev_H := (an635 : e2_Q8)
noncomputable def q_a89_0 : ev_H := (an635 : e2_Q8)
noncomputable def rs_a89 : e2_Rs := [((11, 2147483648, 2147483649), q_a89_0)]
noncomputable def s_a89 : e2_Sm := (59, as_a89, E_a89, f_a89, rs_a89)
noncomputable def S_a89 : List e2_Sm := [s_a38, s_a88]
noncomputable def I_a89 : List e2_In := [(19, 2, e2x_19), (20, 2, e2x_20), (60, 1, e2x_60)]
set_option maxRecDepth 1000000 in
theorem co_a89 : e2_okSB E_a89.length as_a89 f_a89 rs_a89 = true := by decide +kernel
def al_a89_0 : List ev_V := [(2, 33, 0), (2, 27, 0), (0, 1, 0), (0, 2, 0), (0, 30, 0), (1, 3, 4294967296), (9, 0, 0)]
def E_a89_0 : e2_E := [(2147483648, 2147583648, 0, 0), (2147483652, 2147483668, 1, 0), (2147483648, 2147485248, 2, 0), (2147483648, 2147483678, 3, 0)]
noncomputable def h_a89_0 : ev_H := (an635 : e2_Q8)
noncomputable def cl_a89_e : List (Nat × e2_S) := [(66, e2_cutL (al_a89_0.set 5 (11, 2147483648, 2147483678)) 3 (E_a89_0.take 3) h_a89_0)]
set_option maxRecDepth 1000000 in
theorem ck_a89_e : e2_run (e2_cal S_a89 I_a89 4000 2) (e2_fin rs_a89) e2x_59 (e2_bpL cl_a89_e) (e2_cutA cl_a89_e) 4000 (e2_seek e2x_59 0) (e2_al 7 as_a89) [] E_a89 f_a89 = true := by decide +kernel
noncomputable def cl_a89_0 : List (Nat × e2_S) := [(66, e2_cutL (al_a89_0.set 5 (13, 11, 2147483678)) 3 (E_a89_0.take 3) h_a89_0)]
set_option maxRecDepth 1000000 in
theorem ck_a89_0 : e2_runM (e2_cal S_a89 I_a89 4000 2) (e2_fin rs_a89) e2x_59 (e2_bpL cl_a89_0) (e2_cutA cl_a89_0) 4000 (e2_seek e2x_59 66) al_a89_0 [] E_a89_0 h_a89_0 = true := by decide +kernel
set_option maxRecDepth 1000000 in
theorem ci_a89_0 : e2_idl 3 (al_a89_0.set 5 (9, 0, 0)) = true := by decide +kernel
set_option maxRecDepth 1000000 in
theorem cj_a89_0 : e2_idh 3 8 h_a89_0 = true := by decide +kernel
theorem cs_a89 (hen : en_ok) (l : Launch) (hh : e2_hand_a l) : e2_smOk l 173 s_a89 := by
  refine e2_conG (H := 170) (n := 2) (C := evd_59) (S := S_a89) (I := I_a89) (fuel := 4000) hen ei_59 (e2_fa ((cs_a38 hen l hh).mono (by decide)) (e2_fa (cs_a88 hen l hh) e2_fz)) (e2_fa ein_19 (e2_fa ein_20 (e2_fa ein_60 e2_fz))) (by decide) co_a89 fun M d _ hC hcall p e R s m args below meth c Q D cA A ads r0 ha hl0 => ?_
  have L_0 : e2_gdM M p l e R s m args below meth c Q D cA A ads r0 66 al_a89_0 [] E_a89_0 h_a89_0 := by
    refine e2_indL (u := 3) (j := 5) (lo := 2147483648) (hi := 2147483678) (b := 3) (dd := 0) hl0 (by decide) rfl rfl (Or.inr ⟨rfl, rfl⟩) rfl ci_a89_0 cj_a89_0 ?_
    intro r_0 k_0 hk_0 hp_0 hs_0 hn_0
    have hl_0 : r_0.length ≤ 4 := hs_0.len rfl
    have ha_0 := ha.ext hp_0
    exact e2_fromM hen ha_0 hcall (e2_cutA_ok (e2_fa (fun al st E h hc => hn_0 al st E h hc) e2_fz)) (hC []) (X := e2x_59) ex2_59 66 ck_a89_0
  have EN_0 := e2_entL (u := 3) (j := 5) (lo := 2147483648) (hi := 2147483678) hl0 rfl rfl rfl ci_a89_0 cj_a89_0 L_0
  exact e2_from hen ha hcall (e2_cutA_ok (e2_fa (fun al st E h hc => EN_0 al st E h hc) e2_fz)) (hC []) (X := e2x_59) ex2_59 0 ck_a89_e
/-! a90 X3_parseLevel -/
def as_a90 : List ev_V := [(2, 33, 0), (2, 27, 0), (0, 0, 0), (0, 2, 0)]
def E_a90 : e2_E := [(2147483648, 2147583648, 0, 0), (2147483652, 2147483668, 1, 0), (2147483648, 2147485248, 2, 0)]
noncomputable def f_a90 : ev_H := (an635 : e2_Q8)
noncomputable def q_a90_0 : ev_H := (an635 : e2_Q8)
noncomputable def rs_a90 : e2_Rs := [((11, 2147483648, 2147483649), q_a90_0)]
noncomputable def s_a90 : e2_Sm := (59, as_a90, E_a90, f_a90, rs_a90)
noncomputable def S_a90 : List e2_Sm := [s_a38, s_a89]
noncomputable def I_a90 : List e2_In := [(19, 2, e2x_19), (20, 2, e2x_20), (60, 1, e2x_60)]
set_option maxRecDepth 1000000 in
theorem co_a90 : e2_okSB E_a90.length as_a90 f_a90 rs_a90 = true := by decide +kernel
def al_a90_0 : List ev_V := [(2, 33, 0), (2, 27, 0), (0, 0, 0), (0, 2, 0), (0, 30, 0), (1, 3, 4294967296), (9, 0, 0)]
def E_a90_0 : e2_E := [(2147483648, 2147583648, 0, 0), (2147483652, 2147483668, 1, 0), (2147483648, 2147485248, 2, 0), (2147483648, 2147483678, 3, 0)]
noncomputable def h_a90_0 : ev_H := (an635 : e2_Q8)
noncomputable def cl_a90_e : List (Nat × e2_S) := [(66, e2_cutL (al_a90_0.set 5 (11, 2147483648, 2147483678)) 3 (E_a90_0.take 3) h_a90_0)]
set_option maxRecDepth 1000000 in
theorem ck_a90_e : e2_run (e2_cal S_a90 I_a90 4000 2) (e2_fin rs_a90) e2x_59 (e2_bpL cl_a90_e) (e2_cutA cl_a90_e) 4000 (e2_seek e2x_59 0) (e2_al 7 as_a90) [] E_a90 f_a90 = true := by decide +kernel
noncomputable def cl_a90_0 : List (Nat × e2_S) := [(66, e2_cutL (al_a90_0.set 5 (13, 11, 2147483678)) 3 (E_a90_0.take 3) h_a90_0)]
set_option maxRecDepth 1000000 in
theorem ck_a90_0 : e2_runM (e2_cal S_a90 I_a90 4000 2) (e2_fin rs_a90) e2x_59 (e2_bpL cl_a90_0) (e2_cutA cl_a90_0) 4000 (e2_seek e2x_59 66) al_a90_0 [] E_a90_0 h_a90_0 = true := by decide +kernel
set_option maxRecDepth 1000000 in
theorem ci_a90_0 : e2_idl 3 (al_a90_0.set 5 (9, 0, 0)) = true := by decide +kernel
set_option maxRecDepth 1000000 in
theorem cj_a90_0 : e2_idh 3 8 h_a90_0 = true := by decide +kernel
theorem cs_a90 (hen : en_ok) (l : Launch) (hh : e2_hand_a l) : e2_smOk l 176 s_a90 := by
  refine e2_conG (H := 173) (n := 2) (C := evd_59) (S := S_a90) (I := I_a90) (fuel := 4000) hen ei_59 (e2_fa ((cs_a38 hen l hh).mono (by decide)) (e2_fa (cs_a89 hen l hh) e2_fz)) (e2_fa ein_19 (e2_fa ein_20 (e2_fa ein_60 e2_fz))) (by decide) co_a90 fun M d _ hC hcall p e R s m args below meth c Q D cA A ads r0 ha hl0 => ?_
  have L_0 : e2_gdM M p l e R s m args below meth c Q D cA A ads r0 66 al_a90_0 [] E_a90_0 h_a90_0 := by
    refine e2_indL (u := 3) (j := 5) (lo := 2147483648) (hi := 2147483678) (b := 3) (dd := 0) hl0 (by decide) rfl rfl (Or.inr ⟨rfl, rfl⟩) rfl ci_a90_0 cj_a90_0 ?_
    intro r_0 k_0 hk_0 hp_0 hs_0 hn_0
    have hl_0 : r_0.length ≤ 4 := hs_0.len rfl
    have ha_0 := ha.ext hp_0
    exact e2_fromM hen ha_0 hcall (e2_cutA_ok (e2_fa (fun al st E h hc => hn_0 al st E h hc) e2_fz)) (hC []) (X := e2x_59) ex2_59 66 ck_a90_0
  have EN_0 := e2_entL (u := 3) (j := 5) (lo := 2147483648) (hi := 2147483678) hl0 rfl rfl rfl ci_a90_0 cj_a90_0 L_0
  exact e2_from hen ha hcall (e2_cutA_ok (e2_fa (fun al st E h hc => EN_0 al st E h hc) e2_fz)) (hC []) (X := e2x_59) ex2_59 0 ck_a90_e
/-! a91 X3_parseUnit -/
def as_a91 : List ev_V := [(2, 33, 0), (2, 27, 0), (0, 1, 0)]
def E_a91 : e2_E := [(2147483648, 2147583648, 0, 0), (2147483652, 2147483668, 1, 0), (2147483648, 2147485248, 2, 0)]
noncomputable def f_a91 : ev_H := (an635 : e2_Q8)
noncomputable def q_a91_0 : ev_H := (an635 : e2_Q8)
noncomputable def rs_a91 : e2_Rs := [((11, 2147483648, 2147483649), q_a91_0)]
noncomputable def s_a91 : e2_Sm := (62, as_a91, E_a91, f_a91, rs_a91)
noncomputable def S_a91 : List e2_Sm := [s_a38, s_a39, s_a90]
noncomputable def I_a91 : List e2_In := [(18, 2, e2x_18), (19, 2, e2x_19), (20, 2, e2x_20), (43, 2, e2x_43), (44, 3, e2x_44)]
set_option maxRecDepth 1000000 in
theorem ck_a91 : e2_run (e2_cal S_a91 I_a91 4000 2) (e2_fin rs_a91) e2x_62 (fun _ => false) (fun _ _ _ _ _ => false) 4000 (e2_seek e2x_62 0) (e2_al 7 as_a91) [] E_a91 f_a91 = true := by decide +kernel
set_option maxRecDepth 1000000 in
theorem co_a91 : e2_okSB E_a91.length as_a91 f_a91 rs_a91 = true := by decide +kernel
theorem cs_a91 (hen : en_ok) (l : Launch) (hh : e2_hand_a l) : e2_smOk l 179 s_a91 := e2_con0 (H := 176) (n := 2) (C := evd_62) (S := S_a91) (I := I_a91) (fuel := 4000) [] hen ei_62 (e2_fa ((cs_a38 hen l hh).mono (by decide)) (e2_fa ((cs_a39 hen l hh).mono (by decide)) (e2_fa (cs_a90 hen l hh) e2_fz))) (e2_fa ein_18 (e2_fa ein_19 (e2_fa ein_20 (e2_fa ein_43 (e2_fa ein_44 e2_fz))))) (by decide) co_a91 ex2_62 ck_a91
/-! a92 X3_parseLevel -/
def as_a92 : List ev_V := [(2, 33, 0), (2, 27, 0), (0, 5, 0), (0, 1, 0)]
def E_a92 : e2_E := [(2147483648, 2147583648, 0, 0), (2147483652, 2147483668, 1, 0), (2147483648, 2147485248, 2, 0)]
noncomputable def f_a92 : ev_H := (an635 : e2_Q8)
noncomputable def q_a92_0 : ev_H := (an635 : e2_Q8)
noncomputable def rs_a92 : e2_Rs := [((11, 2147483648, 2147483649), q_a92_0)]
noncomputable def s_a92 : e2_Sm := (59, as_a92, E_a92, f_a92, rs_a92)
noncomputable def S_a92 : List e2_Sm := [s_a91]
noncomputable def I_a92 : List e2_In := []
set_option maxRecDepth 1000000 in
theorem ck_a92 : e2_run (e2_cal S_a92 I_a92 4000 0) (e2_fin rs_a92) e2x_59 (fun _ => false) (fun _ _ _ _ _ => false) 4000 (e2_seek e2x_59 0) (e2_al 7 as_a92) [] E_a92 f_a92 = true := by decide +kernel
set_option maxRecDepth 1000000 in
theorem co_a92 : e2_okSB E_a92.length as_a92 f_a92 rs_a92 = true := by decide +kernel
theorem cs_a92 (hen : en_ok) (l : Launch) (hh : e2_hand_a l) : e2_smOk l 180 s_a92 := e2_con0 (H := 179) (n := 0) (C := evd_59) (S := S_a92) (I := I_a92) (fuel := 4000) [] hen ei_59 (e2_fa (cs_a91 hen l hh) e2_fz) e2_fz (by decide) co_a92 ex2_59 ck_a92
/-! a93 X3_parseLevel -/
def as_a93 : List ev_V := [(2, 33, 0), (2, 27, 0), (0, 4, 0), (0, 1, 0)]
def E_a93 : e2_E := [(2147483648, 2147583648, 0, 0), (2147483652, 2147483668, 1, 0), (2147483648, 2147485248, 2, 0)]
noncomputable def f_a93 : ev_H := (an635 : e2_Q8)
noncomputable def q_a93_0 : ev_H := (an635 : e2_Q8)
noncomputable def rs_a93 : e2_Rs := [((11, 2147483648, 2147483649), q_a93_0)]
noncomputable def s_a93 : e2_Sm := (59, as_a93, E_a93, f_a93, rs_a93)
noncomputable def S_a93 : List e2_Sm := [s_a38, s_a92]
noncomputable def I_a93 : List e2_In := [(19, 2, e2x_19), (20, 2, e2x_20), (60, 1, e2x_60)]
set_option maxRecDepth 1000000 in
theorem co_a93 : e2_okSB E_a93.length as_a93 f_a93 rs_a93 = true := by decide +kernel
def al_a93_0 : List ev_V := [(2, 33, 0), (2, 27, 0), (0, 4, 0), (0, 1, 0), (0, 30, 0), (1, 3, 4294967296), (9, 0, 0)]
def E_a93_0 : e2_E := [(2147483648, 2147583648, 0, 0), (2147483652, 2147483668, 1, 0), (2147483648, 2147485248, 2, 0), (2147483648, 2147483678, 3, 0)]
noncomputable def h_a93_0 : ev_H := (an635 : e2_Q8)
noncomputable def cl_a93_e : List (Nat × e2_S) := [(66, e2_cutL (al_a93_0.set 5 (11, 2147483648, 2147483678)) 3 (E_a93_0.take 3) h_a93_0)]
set_option maxRecDepth 1000000 in
theorem ck_a93_e : e2_run (e2_cal S_a93 I_a93 4000 2) (e2_fin rs_a93) e2x_59 (e2_bpL cl_a93_e) (e2_cutA cl_a93_e) 4000 (e2_seek e2x_59 0) (e2_al 7 as_a93) [] E_a93 f_a93 = true := by decide +kernel
noncomputable def cl_a93_0 : List (Nat × e2_S) := [(66, e2_cutL (al_a93_0.set 5 (13, 11, 2147483678)) 3 (E_a93_0.take 3) h_a93_0)]
set_option maxRecDepth 1000000 in
theorem ck_a93_0 : e2_runM (e2_cal S_a93 I_a93 4000 2) (e2_fin rs_a93) e2x_59 (e2_bpL cl_a93_0) (e2_cutA cl_a93_0) 4000 (e2_seek e2x_59 66) al_a93_0 [] E_a93_0 h_a93_0 = true := by decide +kernel
set_option maxRecDepth 1000000 in
theorem ci_a93_0 : e2_idl 3 (al_a93_0.set 5 (9, 0, 0)) = true := by decide +kernel
set_option maxRecDepth 1000000 in
theorem cj_a93_0 : e2_idh 3 8 h_a93_0 = true := by decide +kernel
theorem cs_a93 (hen : en_ok) (l : Launch) (hh : e2_hand_a l) : e2_smOk l 183 s_a93 := by
  refine e2_conG (H := 180) (n := 2) (C := evd_59) (S := S_a93) (I := I_a93) (fuel := 4000) hen ei_59 (e2_fa ((cs_a38 hen l hh).mono (by decide)) (e2_fa (cs_a92 hen l hh) e2_fz)) (e2_fa ein_19 (e2_fa ein_20 (e2_fa ein_60 e2_fz))) (by decide) co_a93 fun M d _ hC hcall p e R s m args below meth c Q D cA A ads r0 ha hl0 => ?_
  have L_0 : e2_gdM M p l e R s m args below meth c Q D cA A ads r0 66 al_a93_0 [] E_a93_0 h_a93_0 := by
    refine e2_indL (u := 3) (j := 5) (lo := 2147483648) (hi := 2147483678) (b := 3) (dd := 0) hl0 (by decide) rfl rfl (Or.inr ⟨rfl, rfl⟩) rfl ci_a93_0 cj_a93_0 ?_
    intro r_0 k_0 hk_0 hp_0 hs_0 hn_0
    have hl_0 : r_0.length ≤ 4 := hs_0.len rfl
    have ha_0 := ha.ext hp_0
    exact e2_fromM hen ha_0 hcall (e2_cutA_ok (e2_fa (fun al st E h hc => hn_0 al st E h hc) e2_fz)) (hC []) (X := e2x_59) ex2_59 66 ck_a93_0
  have EN_0 := e2_entL (u := 3) (j := 5) (lo := 2147483648) (hi := 2147483678) hl0 rfl rfl rfl ci_a93_0 cj_a93_0 L_0
  exact e2_from hen ha hcall (e2_cutA_ok (e2_fa (fun al st E h hc => EN_0 al st E h hc) e2_fz)) (hC []) (X := e2x_59) ex2_59 0 ck_a93_e
/-! a94 X3_parseLevel -/
def as_a94 : List ev_V := [(2, 33, 0), (2, 27, 0), (0, 3, 0), (0, 1, 0)]
def E_a94 : e2_E := [(2147483648, 2147583648, 0, 0), (2147483652, 2147483668, 1, 0), (2147483648, 2147485248, 2, 0)]
noncomputable def f_a94 : ev_H := (an635 : e2_Q8)
noncomputable def q_a94_0 : ev_H := (an635 : e2_Q8)
noncomputable def rs_a94 : e2_Rs := [((11, 2147483648, 2147483649), q_a94_0)]
noncomputable def s_a94 : e2_Sm := (59, as_a94, E_a94, f_a94, rs_a94)
noncomputable def S_a94 : List e2_Sm := [s_a38, s_a93]
noncomputable def I_a94 : List e2_In := [(19, 2, e2x_19), (20, 2, e2x_20), (60, 1, e2x_60)]
set_option maxRecDepth 1000000 in
theorem co_a94 : e2_okSB E_a94.length as_a94 f_a94 rs_a94 = true := by decide +kernel
def al_a94_0 : List ev_V := [(2, 33, 0), (2, 27, 0), (0, 3, 0), (0, 1, 0), (0, 30, 0), (1, 3, 4294967296), (9, 0, 0)]
def E_a94_0 : e2_E := [(2147483648, 2147583648, 0, 0), (2147483652, 2147483668, 1, 0), (2147483648, 2147485248, 2, 0), (2147483648, 2147483678, 3, 0)]
noncomputable def h_a94_0 : ev_H := (an635 : e2_Q8)
noncomputable def cl_a94_e : List (Nat × e2_S) := [(66, e2_cutL (al_a94_0.set 5 (11, 2147483648, 2147483678)) 3 (E_a94_0.take 3) h_a94_0)]
set_option maxRecDepth 1000000 in
theorem ck_a94_e : e2_run (e2_cal S_a94 I_a94 4000 2) (e2_fin rs_a94) e2x_59 (e2_bpL cl_a94_e) (e2_cutA cl_a94_e) 4000 (e2_seek e2x_59 0) (e2_al 7 as_a94) [] E_a94 f_a94 = true := by decide +kernel
noncomputable def cl_a94_0 : List (Nat × e2_S) := [(66, e2_cutL (al_a94_0.set 5 (13, 11, 2147483678)) 3 (E_a94_0.take 3) h_a94_0)]
set_option maxRecDepth 1000000 in
theorem ck_a94_0 : e2_runM (e2_cal S_a94 I_a94 4000 2) (e2_fin rs_a94) e2x_59 (e2_bpL cl_a94_0) (e2_cutA cl_a94_0) 4000 (e2_seek e2x_59 66) al_a94_0 [] E_a94_0 h_a94_0 = true := by decide +kernel
set_option maxRecDepth 1000000 in
theorem ci_a94_0 : e2_idl 3 (al_a94_0.set 5 (9, 0, 0)) = true := by decide +kernel
set_option maxRecDepth 1000000 in
theorem cj_a94_0 : e2_idh 3 8 h_a94_0 = true := by decide +kernel
theorem cs_a94 (hen : en_ok) (l : Launch) (hh : e2_hand_a l) : e2_smOk l 186 s_a94 := by
  refine e2_conG (H := 183) (n := 2) (C := evd_59) (S := S_a94) (I := I_a94) (fuel := 4000) hen ei_59 (e2_fa ((cs_a38 hen l hh).mono (by decide)) (e2_fa (cs_a93 hen l hh) e2_fz)) (e2_fa ein_19 (e2_fa ein_20 (e2_fa ein_60 e2_fz))) (by decide) co_a94 fun M d _ hC hcall p e R s m args below meth c Q D cA A ads r0 ha hl0 => ?_
  have L_0 : e2_gdM M p l e R s m args below meth c Q D cA A ads r0 66 al_a94_0 [] E_a94_0 h_a94_0 := by
    refine e2_indL (u := 3) (j := 5) (lo := 2147483648) (hi := 2147483678) (b := 3) (dd := 0) hl0 (by decide) rfl rfl (Or.inr ⟨rfl, rfl⟩) rfl ci_a94_0 cj_a94_0 ?_
    intro r_0 k_0 hk_0 hp_0 hs_0 hn_0
    have hl_0 : r_0.length ≤ 4 := hs_0.len rfl
    have ha_0 := ha.ext hp_0
    exact e2_fromM hen ha_0 hcall (e2_cutA_ok (e2_fa (fun al st E h hc => hn_0 al st E h hc) e2_fz)) (hC []) (X := e2x_59) ex2_59 66 ck_a94_0
  have EN_0 := e2_entL (u := 3) (j := 5) (lo := 2147483648) (hi := 2147483678) hl0 rfl rfl rfl ci_a94_0 cj_a94_0 L_0
  exact e2_from hen ha hcall (e2_cutA_ok (e2_fa (fun al st E h hc => EN_0 al st E h hc) e2_fz)) (hC []) (X := e2x_59) ex2_59 0 ck_a94_e
/-! a95 X3_parseNot -/
def as_a95 : List ev_V := [(2, 33, 0), (2, 27, 0), (0, 1, 0)]
def E_a95 : e2_E := [(2147483648, 2147583648, 0, 0), (2147483652, 2147483668, 1, 0), (2147483648, 2147485248, 2, 0)]
noncomputable def f_a95 : ev_H := (an635 : e2_Q8)
noncomputable def q_a95_0 : ev_H := (an635 : e2_Q8)
noncomputable def rs_a95 : e2_Rs := [((11, 2147483648, 2147483649), q_a95_0)]
noncomputable def s_a95 : e2_Sm := (61, as_a95, E_a95, f_a95, rs_a95)
noncomputable def S_a95 : List e2_Sm := [s_a38, s_a88]
noncomputable def I_a95 : List e2_In := [(19, 2, e2x_19), (20, 2, e2x_20)]
set_option maxRecDepth 1000000 in
theorem ck_a95 : e2_run (e2_cal S_a95 I_a95 4000 2) (e2_fin rs_a95) e2x_61 (fun _ => false) (fun _ _ _ _ _ => false) 4000 (e2_seek e2x_61 0) (e2_al 3 as_a95) [] E_a95 f_a95 = true := by decide +kernel
set_option maxRecDepth 1000000 in
theorem co_a95 : e2_okSB E_a95.length as_a95 f_a95 rs_a95 = true := by decide +kernel
theorem cs_a95 (hen : en_ok) (l : Launch) (hh : e2_hand_a l) : e2_smOk l 173 s_a95 := e2_con0 (H := 170) (n := 2) (C := evd_61) (S := S_a95) (I := I_a95) (fuel := 4000) [] hen ei_61 (e2_fa ((cs_a38 hen l hh).mono (by decide)) (e2_fa (cs_a88 hen l hh) e2_fz)) (e2_fa ein_19 (e2_fa ein_20 e2_fz)) (by decide) co_a95 ex2_61 ck_a95
/-! a96 X3_parseLevel -/
def as_a96 : List ev_V := [(2, 33, 0), (2, 27, 0), (0, 2, 0), (0, 1, 0)]
def E_a96 : e2_E := [(2147483648, 2147583648, 0, 0), (2147483652, 2147483668, 1, 0), (2147483648, 2147485248, 2, 0)]
noncomputable def f_a96 : ev_H := (an635 : e2_Q8)
noncomputable def q_a96_0 : ev_H := (an635 : e2_Q8)
noncomputable def rs_a96 : e2_Rs := [((11, 2147483648, 2147483649), q_a96_0)]
noncomputable def s_a96 : e2_Sm := (59, as_a96, E_a96, f_a96, rs_a96)
noncomputable def S_a96 : List e2_Sm := [s_a38, s_a94, s_a95]
noncomputable def I_a96 : List e2_In := [(19, 2, e2x_19), (20, 2, e2x_20), (60, 1, e2x_60)]
set_option maxRecDepth 1000000 in
theorem co_a96 : e2_okSB E_a96.length as_a96 f_a96 rs_a96 = true := by decide +kernel
def al_a96_0 : List ev_V := [(2, 33, 0), (2, 27, 0), (0, 2, 0), (0, 1, 0), (0, 1, 0), (1, 3, 4294967296), (9, 0, 0)]
def E_a96_0 : e2_E := [(2147483648, 2147583648, 0, 0), (2147483652, 2147483668, 1, 0), (2147483648, 2147485248, 2, 0), (2147483648, 2147483649, 3, 0)]
noncomputable def h_a96_0 : ev_H := (an635 : e2_Q8)
noncomputable def cl_a96_e : List (Nat × e2_S) := [(66, e2_cutL (al_a96_0.set 5 (11, 2147483648, 2147483649)) 3 (E_a96_0.take 3) h_a96_0)]
set_option maxRecDepth 1000000 in
theorem ck_a96_e : e2_run (e2_cal S_a96 I_a96 4000 2) (e2_fin rs_a96) e2x_59 (e2_bpL cl_a96_e) (e2_cutA cl_a96_e) 4000 (e2_seek e2x_59 0) (e2_al 7 as_a96) [] E_a96 f_a96 = true := by decide +kernel
noncomputable def cl_a96_0 : List (Nat × e2_S) := [(66, e2_cutL (al_a96_0.set 5 (13, 11, 2147483649)) 3 (E_a96_0.take 3) h_a96_0)]
set_option maxRecDepth 1000000 in
theorem ck_a96_0 : e2_runM (e2_cal S_a96 I_a96 4000 2) (e2_fin rs_a96) e2x_59 (e2_bpL cl_a96_0) (e2_cutA cl_a96_0) 4000 (e2_seek e2x_59 66) al_a96_0 [] E_a96_0 h_a96_0 = true := by decide +kernel
set_option maxRecDepth 1000000 in
theorem ci_a96_0 : e2_idl 3 (al_a96_0.set 5 (9, 0, 0)) = true := by decide +kernel
set_option maxRecDepth 1000000 in
theorem cj_a96_0 : e2_idh 3 8 h_a96_0 = true := by decide +kernel
theorem cs_a96 (hen : en_ok) (l : Launch) (hh : e2_hand_a l) : e2_smOk l 189 s_a96 := by
  refine e2_conG (H := 186) (n := 2) (C := evd_59) (S := S_a96) (I := I_a96) (fuel := 4000) hen ei_59 (e2_fa ((cs_a38 hen l hh).mono (by decide)) (e2_fa (cs_a94 hen l hh) (e2_fa ((cs_a95 hen l hh).mono (by decide)) e2_fz))) (e2_fa ein_19 (e2_fa ein_20 (e2_fa ein_60 e2_fz))) (by decide) co_a96 fun M d _ hC hcall p e R s m args below meth c Q D cA A ads r0 ha hl0 => ?_
  have L_0 : e2_gdM M p l e R s m args below meth c Q D cA A ads r0 66 al_a96_0 [] E_a96_0 h_a96_0 := by
    refine e2_indL (u := 3) (j := 5) (lo := 2147483648) (hi := 2147483649) (b := 3) (dd := 0) hl0 (by decide) rfl rfl (Or.inr ⟨rfl, rfl⟩) rfl ci_a96_0 cj_a96_0 ?_
    intro r_0 k_0 hk_0 hp_0 hs_0 hn_0
    have hl_0 : r_0.length ≤ 4 := hs_0.len rfl
    have ha_0 := ha.ext hp_0
    exact e2_fromM hen ha_0 hcall (e2_cutA_ok (e2_fa (fun al st E h hc => hn_0 al st E h hc) e2_fz)) (hC []) (X := e2x_59) ex2_59 66 ck_a96_0
  have EN_0 := e2_entL (u := 3) (j := 5) (lo := 2147483648) (hi := 2147483649) hl0 rfl rfl rfl ci_a96_0 cj_a96_0 L_0
  exact e2_from hen ha hcall (e2_cutA_ok (e2_fa (fun al st E h hc => EN_0 al st E h hc) e2_fz)) (hC []) (X := e2x_59) ex2_59 0 ck_a96_e
/-! a97 X3_parseLevel -/
def as_a97 : List ev_V := [(2, 33, 0), (2, 27, 0), (0, 1, 0), (0, 1, 0)]
def E_a97 : e2_E := [(2147483648, 2147583648, 0, 0), (2147483652, 2147483668, 1, 0), (2147483648, 2147485248, 2, 0)]
noncomputable def f_a97 : ev_H := (an635 : e2_Q8)
noncomputable def q_a97_0 : ev_H := (an635 : e2_Q8)
noncomputable def rs_a97 : e2_Rs := [((11, 2147483648, 2147483649), q_a97_0)]
noncomputable def s_a97 : e2_Sm := (59, as_a97, E_a97, f_a97, rs_a97)
noncomputable def S_a97 : List e2_Sm := [s_a38, s_a96]
noncomputable def I_a97 : List e2_In := [(19, 2, e2x_19), (20, 2, e2x_20), (60, 1, e2x_60)]
set_option maxRecDepth 1000000 in
theorem co_a97 : e2_okSB E_a97.length as_a97 f_a97 rs_a97 = true := by decide +kernel
def al_a97_0 : List ev_V := [(2, 33, 0), (2, 27, 0), (0, 1, 0), (0, 1, 0), (0, 30, 0), (1, 3, 4294967296), (9, 0, 0)]
def E_a97_0 : e2_E := [(2147483648, 2147583648, 0, 0), (2147483652, 2147483668, 1, 0), (2147483648, 2147485248, 2, 0), (2147483648, 2147483678, 3, 0)]
noncomputable def h_a97_0 : ev_H := (an635 : e2_Q8)
noncomputable def cl_a97_e : List (Nat × e2_S) := [(66, e2_cutL (al_a97_0.set 5 (11, 2147483648, 2147483678)) 3 (E_a97_0.take 3) h_a97_0)]
set_option maxRecDepth 1000000 in
theorem ck_a97_e : e2_run (e2_cal S_a97 I_a97 4000 2) (e2_fin rs_a97) e2x_59 (e2_bpL cl_a97_e) (e2_cutA cl_a97_e) 4000 (e2_seek e2x_59 0) (e2_al 7 as_a97) [] E_a97 f_a97 = true := by decide +kernel
noncomputable def cl_a97_0 : List (Nat × e2_S) := [(66, e2_cutL (al_a97_0.set 5 (13, 11, 2147483678)) 3 (E_a97_0.take 3) h_a97_0)]
set_option maxRecDepth 1000000 in
theorem ck_a97_0 : e2_runM (e2_cal S_a97 I_a97 4000 2) (e2_fin rs_a97) e2x_59 (e2_bpL cl_a97_0) (e2_cutA cl_a97_0) 4000 (e2_seek e2x_59 66) al_a97_0 [] E_a97_0 h_a97_0 = true := by decide +kernel
set_option maxRecDepth 1000000 in
theorem ci_a97_0 : e2_idl 3 (al_a97_0.set 5 (9, 0, 0)) = true := by decide +kernel
set_option maxRecDepth 1000000 in
theorem cj_a97_0 : e2_idh 3 8 h_a97_0 = true := by decide +kernel
theorem cs_a97 (hen : en_ok) (l : Launch) (hh : e2_hand_a l) : e2_smOk l 192 s_a97 := by
  refine e2_conG (H := 189) (n := 2) (C := evd_59) (S := S_a97) (I := I_a97) (fuel := 4000) hen ei_59 (e2_fa ((cs_a38 hen l hh).mono (by decide)) (e2_fa (cs_a96 hen l hh) e2_fz)) (e2_fa ein_19 (e2_fa ein_20 (e2_fa ein_60 e2_fz))) (by decide) co_a97 fun M d _ hC hcall p e R s m args below meth c Q D cA A ads r0 ha hl0 => ?_
  have L_0 : e2_gdM M p l e R s m args below meth c Q D cA A ads r0 66 al_a97_0 [] E_a97_0 h_a97_0 := by
    refine e2_indL (u := 3) (j := 5) (lo := 2147483648) (hi := 2147483678) (b := 3) (dd := 0) hl0 (by decide) rfl rfl (Or.inr ⟨rfl, rfl⟩) rfl ci_a97_0 cj_a97_0 ?_
    intro r_0 k_0 hk_0 hp_0 hs_0 hn_0
    have hl_0 : r_0.length ≤ 4 := hs_0.len rfl
    have ha_0 := ha.ext hp_0
    exact e2_fromM hen ha_0 hcall (e2_cutA_ok (e2_fa (fun al st E h hc => hn_0 al st E h hc) e2_fz)) (hC []) (X := e2x_59) ex2_59 66 ck_a97_0
  have EN_0 := e2_entL (u := 3) (j := 5) (lo := 2147483648) (hi := 2147483678) hl0 rfl rfl rfl ci_a97_0 cj_a97_0 L_0
  exact e2_from hen ha hcall (e2_cutA_ok (e2_fa (fun al st E h hc => EN_0 al st E h hc) e2_fz)) (hC []) (X := e2x_59) ex2_59 0 ck_a97_e
/-! a98 X3_parseLevel -/
def as_a98 : List ev_V := [(2, 33, 0), (2, 27, 0), (0, 0, 0), (0, 1, 0)]
def E_a98 : e2_E := [(2147483648, 2147583648, 0, 0), (2147483652, 2147483668, 1, 0), (2147483648, 2147485248, 2, 0)]
noncomputable def f_a98 : ev_H := (an635 : e2_Q8)
noncomputable def q_a98_0 : ev_H := (an635 : e2_Q8)
noncomputable def rs_a98 : e2_Rs := [((11, 2147483648, 2147483649), q_a98_0)]
noncomputable def s_a98 : e2_Sm := (59, as_a98, E_a98, f_a98, rs_a98)
noncomputable def S_a98 : List e2_Sm := [s_a38, s_a97]
noncomputable def I_a98 : List e2_In := [(19, 2, e2x_19), (20, 2, e2x_20), (60, 1, e2x_60)]
set_option maxRecDepth 1000000 in
theorem co_a98 : e2_okSB E_a98.length as_a98 f_a98 rs_a98 = true := by decide +kernel
def al_a98_0 : List ev_V := [(2, 33, 0), (2, 27, 0), (0, 0, 0), (0, 1, 0), (0, 30, 0), (1, 3, 4294967296), (9, 0, 0)]
def E_a98_0 : e2_E := [(2147483648, 2147583648, 0, 0), (2147483652, 2147483668, 1, 0), (2147483648, 2147485248, 2, 0), (2147483648, 2147483678, 3, 0)]
noncomputable def h_a98_0 : ev_H := (an635 : e2_Q8)
noncomputable def cl_a98_e : List (Nat × e2_S) := [(66, e2_cutL (al_a98_0.set 5 (11, 2147483648, 2147483678)) 3 (E_a98_0.take 3) h_a98_0)]
set_option maxRecDepth 1000000 in
theorem ck_a98_e : e2_run (e2_cal S_a98 I_a98 4000 2) (e2_fin rs_a98) e2x_59 (e2_bpL cl_a98_e) (e2_cutA cl_a98_e) 4000 (e2_seek e2x_59 0) (e2_al 7 as_a98) [] E_a98 f_a98 = true := by decide +kernel
noncomputable def cl_a98_0 : List (Nat × e2_S) := [(66, e2_cutL (al_a98_0.set 5 (13, 11, 2147483678)) 3 (E_a98_0.take 3) h_a98_0)]
set_option maxRecDepth 1000000 in
theorem ck_a98_0 : e2_runM (e2_cal S_a98 I_a98 4000 2) (e2_fin rs_a98) e2x_59 (e2_bpL cl_a98_0) (e2_cutA cl_a98_0) 4000 (e2_seek e2x_59 66) al_a98_0 [] E_a98_0 h_a98_0 = true := by decide +kernel
set_option maxRecDepth 1000000 in
theorem ci_a98_0 : e2_idl 3 (al_a98_0.set 5 (9, 0, 0)) = true := by decide +kernel
set_option maxRecDepth 1000000 in
theorem cj_a98_0 : e2_idh 3 8 h_a98_0 = true := by decide +kernel
theorem cs_a98 (hen : en_ok) (l : Launch) (hh : e2_hand_a l) : e2_smOk l 195 s_a98 := by
  refine e2_conG (H := 192) (n := 2) (C := evd_59) (S := S_a98) (I := I_a98) (fuel := 4000) hen ei_59 (e2_fa ((cs_a38 hen l hh).mono (by decide)) (e2_fa (cs_a97 hen l hh) e2_fz)) (e2_fa ein_19 (e2_fa ein_20 (e2_fa ein_60 e2_fz))) (by decide) co_a98 fun M d _ hC hcall p e R s m args below meth c Q D cA A ads r0 ha hl0 => ?_
  have L_0 : e2_gdM M p l e R s m args below meth c Q D cA A ads r0 66 al_a98_0 [] E_a98_0 h_a98_0 := by
    refine e2_indL (u := 3) (j := 5) (lo := 2147483648) (hi := 2147483678) (b := 3) (dd := 0) hl0 (by decide) rfl rfl (Or.inr ⟨rfl, rfl⟩) rfl ci_a98_0 cj_a98_0 ?_
    intro r_0 k_0 hk_0 hp_0 hs_0 hn_0
    have hl_0 : r_0.length ≤ 4 := hs_0.len rfl
    have ha_0 := ha.ext hp_0
    exact e2_fromM hen ha_0 hcall (e2_cutA_ok (e2_fa (fun al st E h hc => hn_0 al st E h hc) e2_fz)) (hC []) (X := e2x_59) ex2_59 66 ck_a98_0
  have EN_0 := e2_entL (u := 3) (j := 5) (lo := 2147483648) (hi := 2147483678) hl0 rfl rfl rfl ci_a98_0 cj_a98_0 L_0
  exact e2_from hen ha hcall (e2_cutA_ok (e2_fa (fun al st E h hc => EN_0 al st E h hc) e2_fz)) (hC []) (X := e2x_59) ex2_59 0 ck_a98_e
/-! a99 X3_parseUnit -/
def as_a99 : List ev_V := [(2, 33, 0), (2, 27, 0), (0, 0, 0)]
def E_a99 : e2_E := [(2147483648, 2147583648, 0, 0), (2147483652, 2147483668, 1, 0), (2147483648, 2147485248, 2, 0)]
noncomputable def f_a99 : ev_H := (an635 : e2_Q8)
noncomputable def q_a99_0 : ev_H := (an635 : e2_Q8)
noncomputable def rs_a99 : e2_Rs := [((11, 2147483648, 2147483649), q_a99_0)]
noncomputable def s_a99 : e2_Sm := (62, as_a99, E_a99, f_a99, rs_a99)
noncomputable def S_a99 : List e2_Sm := [s_a38, s_a39, s_a98]
noncomputable def I_a99 : List e2_In := [(18, 2, e2x_18), (19, 2, e2x_19), (20, 2, e2x_20), (43, 2, e2x_43), (44, 3, e2x_44)]
set_option maxRecDepth 1000000 in
theorem ck_a99 : e2_run (e2_cal S_a99 I_a99 4000 2) (e2_fin rs_a99) e2x_62 (fun _ => false) (fun _ _ _ _ _ => false) 4000 (e2_seek e2x_62 0) (e2_al 7 as_a99) [] E_a99 f_a99 = true := by decide +kernel
set_option maxRecDepth 1000000 in
theorem co_a99 : e2_okSB E_a99.length as_a99 f_a99 rs_a99 = true := by decide +kernel
theorem cs_a99 (hen : en_ok) (l : Launch) (hh : e2_hand_a l) : e2_smOk l 198 s_a99 := e2_con0 (H := 195) (n := 2) (C := evd_62) (S := S_a99) (I := I_a99) (fuel := 4000) [] hen ei_62 (e2_fa ((cs_a38 hen l hh).mono (by decide)) (e2_fa ((cs_a39 hen l hh).mono (by decide)) (e2_fa (cs_a98 hen l hh) e2_fz))) (e2_fa ein_18 (e2_fa ein_19 (e2_fa ein_20 (e2_fa ein_43 (e2_fa ein_44 e2_fz))))) (by decide) co_a99 ex2_62 ck_a99
/-! a100 X3_parseLevel -/
def as_a100 : List ev_V := [(2, 33, 0), (2, 27, 0), (0, 5, 0), (0, 0, 0)]
def E_a100 : e2_E := [(2147483648, 2147583648, 0, 0), (2147483652, 2147483668, 1, 0), (2147483648, 2147485248, 2, 0)]
noncomputable def f_a100 : ev_H := (an635 : e2_Q8)
noncomputable def q_a100_0 : ev_H := (an635 : e2_Q8)
noncomputable def rs_a100 : e2_Rs := [((11, 2147483648, 2147483649), q_a100_0)]
noncomputable def s_a100 : e2_Sm := (59, as_a100, E_a100, f_a100, rs_a100)
noncomputable def S_a100 : List e2_Sm := [s_a99]
noncomputable def I_a100 : List e2_In := []
set_option maxRecDepth 1000000 in
theorem ck_a100 : e2_run (e2_cal S_a100 I_a100 4000 0) (e2_fin rs_a100) e2x_59 (fun _ => false) (fun _ _ _ _ _ => false) 4000 (e2_seek e2x_59 0) (e2_al 7 as_a100) [] E_a100 f_a100 = true := by decide +kernel
set_option maxRecDepth 1000000 in
theorem co_a100 : e2_okSB E_a100.length as_a100 f_a100 rs_a100 = true := by decide +kernel
theorem cs_a100 (hen : en_ok) (l : Launch) (hh : e2_hand_a l) : e2_smOk l 199 s_a100 := e2_con0 (H := 198) (n := 0) (C := evd_59) (S := S_a100) (I := I_a100) (fuel := 4000) [] hen ei_59 (e2_fa (cs_a99 hen l hh) e2_fz) e2_fz (by decide) co_a100 ex2_59 ck_a100
/-! a101 X3_parseLevel -/
def as_a101 : List ev_V := [(2, 33, 0), (2, 27, 0), (0, 4, 0), (0, 0, 0)]
def E_a101 : e2_E := [(2147483648, 2147583648, 0, 0), (2147483652, 2147483668, 1, 0), (2147483648, 2147485248, 2, 0)]
noncomputable def f_a101 : ev_H := (an635 : e2_Q8)
noncomputable def q_a101_0 : ev_H := (an635 : e2_Q8)
noncomputable def rs_a101 : e2_Rs := [((11, 2147483648, 2147483649), q_a101_0)]
noncomputable def s_a101 : e2_Sm := (59, as_a101, E_a101, f_a101, rs_a101)
noncomputable def S_a101 : List e2_Sm := [s_a38, s_a100]
noncomputable def I_a101 : List e2_In := [(19, 2, e2x_19), (20, 2, e2x_20), (60, 1, e2x_60)]
set_option maxRecDepth 1000000 in
theorem co_a101 : e2_okSB E_a101.length as_a101 f_a101 rs_a101 = true := by decide +kernel
def al_a101_0 : List ev_V := [(2, 33, 0), (2, 27, 0), (0, 4, 0), (0, 0, 0), (0, 30, 0), (1, 3, 4294967296), (9, 0, 0)]
def E_a101_0 : e2_E := [(2147483648, 2147583648, 0, 0), (2147483652, 2147483668, 1, 0), (2147483648, 2147485248, 2, 0), (2147483648, 2147483678, 3, 0)]
noncomputable def h_a101_0 : ev_H := (an635 : e2_Q8)
noncomputable def cl_a101_e : List (Nat × e2_S) := [(66, e2_cutL (al_a101_0.set 5 (11, 2147483648, 2147483678)) 3 (E_a101_0.take 3) h_a101_0)]
set_option maxRecDepth 1000000 in
theorem ck_a101_e : e2_run (e2_cal S_a101 I_a101 4000 2) (e2_fin rs_a101) e2x_59 (e2_bpL cl_a101_e) (e2_cutA cl_a101_e) 4000 (e2_seek e2x_59 0) (e2_al 7 as_a101) [] E_a101 f_a101 = true := by decide +kernel
noncomputable def cl_a101_0 : List (Nat × e2_S) := [(66, e2_cutL (al_a101_0.set 5 (13, 11, 2147483678)) 3 (E_a101_0.take 3) h_a101_0)]
set_option maxRecDepth 1000000 in
theorem ck_a101_0 : e2_runM (e2_cal S_a101 I_a101 4000 2) (e2_fin rs_a101) e2x_59 (e2_bpL cl_a101_0) (e2_cutA cl_a101_0) 4000 (e2_seek e2x_59 66) al_a101_0 [] E_a101_0 h_a101_0 = true := by decide +kernel
set_option maxRecDepth 1000000 in
theorem ci_a101_0 : e2_idl 3 (al_a101_0.set 5 (9, 0, 0)) = true := by decide +kernel
set_option maxRecDepth 1000000 in
theorem cj_a101_0 : e2_idh 3 8 h_a101_0 = true := by decide +kernel
theorem cs_a101 (hen : en_ok) (l : Launch) (hh : e2_hand_a l) : e2_smOk l 202 s_a101 := by
  refine e2_conG (H := 199) (n := 2) (C := evd_59) (S := S_a101) (I := I_a101) (fuel := 4000) hen ei_59 (e2_fa ((cs_a38 hen l hh).mono (by decide)) (e2_fa (cs_a100 hen l hh) e2_fz)) (e2_fa ein_19 (e2_fa ein_20 (e2_fa ein_60 e2_fz))) (by decide) co_a101 fun M d _ hC hcall p e R s m args below meth c Q D cA A ads r0 ha hl0 => ?_
  have L_0 : e2_gdM M p l e R s m args below meth c Q D cA A ads r0 66 al_a101_0 [] E_a101_0 h_a101_0 := by
    refine e2_indL (u := 3) (j := 5) (lo := 2147483648) (hi := 2147483678) (b := 3) (dd := 0) hl0 (by decide) rfl rfl (Or.inr ⟨rfl, rfl⟩) rfl ci_a101_0 cj_a101_0 ?_
    intro r_0 k_0 hk_0 hp_0 hs_0 hn_0
    have hl_0 : r_0.length ≤ 4 := hs_0.len rfl
    have ha_0 := ha.ext hp_0
    exact e2_fromM hen ha_0 hcall (e2_cutA_ok (e2_fa (fun al st E h hc => hn_0 al st E h hc) e2_fz)) (hC []) (X := e2x_59) ex2_59 66 ck_a101_0
  have EN_0 := e2_entL (u := 3) (j := 5) (lo := 2147483648) (hi := 2147483678) hl0 rfl rfl rfl ci_a101_0 cj_a101_0 L_0
  exact e2_from hen ha hcall (e2_cutA_ok (e2_fa (fun al st E h hc => EN_0 al st E h hc) e2_fz)) (hC []) (X := e2x_59) ex2_59 0 ck_a101_e
/-! a102 X3_parseLevel -/
def as_a102 : List ev_V := [(2, 33, 0), (2, 27, 0), (0, 3, 0), (0, 0, 0)]
def E_a102 : e2_E := [(2147483648, 2147583648, 0, 0), (2147483652, 2147483668, 1, 0), (2147483648, 2147485248, 2, 0)]
noncomputable def f_a102 : ev_H := (an635 : e2_Q8)
noncomputable def q_a102_0 : ev_H := (an635 : e2_Q8)
noncomputable def rs_a102 : e2_Rs := [((11, 2147483648, 2147483649), q_a102_0)]
noncomputable def s_a102 : e2_Sm := (59, as_a102, E_a102, f_a102, rs_a102)
noncomputable def S_a102 : List e2_Sm := [s_a38, s_a101]
noncomputable def I_a102 : List e2_In := [(19, 2, e2x_19), (20, 2, e2x_20), (60, 1, e2x_60)]
set_option maxRecDepth 1000000 in
theorem co_a102 : e2_okSB E_a102.length as_a102 f_a102 rs_a102 = true := by decide +kernel
def al_a102_0 : List ev_V := [(2, 33, 0), (2, 27, 0), (0, 3, 0), (0, 0, 0), (0, 30, 0), (1, 3, 4294967296), (9, 0, 0)]
def E_a102_0 : e2_E := [(2147483648, 2147583648, 0, 0), (2147483652, 2147483668, 1, 0), (2147483648, 2147485248, 2, 0), (2147483648, 2147483678, 3, 0)]
noncomputable def h_a102_0 : ev_H := (an635 : e2_Q8)
noncomputable def cl_a102_e : List (Nat × e2_S) := [(66, e2_cutL (al_a102_0.set 5 (11, 2147483648, 2147483678)) 3 (E_a102_0.take 3) h_a102_0)]
set_option maxRecDepth 1000000 in
theorem ck_a102_e : e2_run (e2_cal S_a102 I_a102 4000 2) (e2_fin rs_a102) e2x_59 (e2_bpL cl_a102_e) (e2_cutA cl_a102_e) 4000 (e2_seek e2x_59 0) (e2_al 7 as_a102) [] E_a102 f_a102 = true := by decide +kernel
noncomputable def cl_a102_0 : List (Nat × e2_S) := [(66, e2_cutL (al_a102_0.set 5 (13, 11, 2147483678)) 3 (E_a102_0.take 3) h_a102_0)]
set_option maxRecDepth 1000000 in
theorem ck_a102_0 : e2_runM (e2_cal S_a102 I_a102 4000 2) (e2_fin rs_a102) e2x_59 (e2_bpL cl_a102_0) (e2_cutA cl_a102_0) 4000 (e2_seek e2x_59 66) al_a102_0 [] E_a102_0 h_a102_0 = true := by decide +kernel
set_option maxRecDepth 1000000 in
theorem ci_a102_0 : e2_idl 3 (al_a102_0.set 5 (9, 0, 0)) = true := by decide +kernel
set_option maxRecDepth 1000000 in
theorem cj_a102_0 : e2_idh 3 8 h_a102_0 = true := by decide +kernel
theorem cs_a102 (hen : en_ok) (l : Launch) (hh : e2_hand_a l) : e2_smOk l 205 s_a102 := by
  refine e2_conG (H := 202) (n := 2) (C := evd_59) (S := S_a102) (I := I_a102) (fuel := 4000) hen ei_59 (e2_fa ((cs_a38 hen l hh).mono (by decide)) (e2_fa (cs_a101 hen l hh) e2_fz)) (e2_fa ein_19 (e2_fa ein_20 (e2_fa ein_60 e2_fz))) (by decide) co_a102 fun M d _ hC hcall p e R s m args below meth c Q D cA A ads r0 ha hl0 => ?_
  have L_0 : e2_gdM M p l e R s m args below meth c Q D cA A ads r0 66 al_a102_0 [] E_a102_0 h_a102_0 := by
    refine e2_indL (u := 3) (j := 5) (lo := 2147483648) (hi := 2147483678) (b := 3) (dd := 0) hl0 (by decide) rfl rfl (Or.inr ⟨rfl, rfl⟩) rfl ci_a102_0 cj_a102_0 ?_
    intro r_0 k_0 hk_0 hp_0 hs_0 hn_0
    have hl_0 : r_0.length ≤ 4 := hs_0.len rfl
    have ha_0 := ha.ext hp_0
    exact e2_fromM hen ha_0 hcall (e2_cutA_ok (e2_fa (fun al st E h hc => hn_0 al st E h hc) e2_fz)) (hC []) (X := e2x_59) ex2_59 66 ck_a102_0
  have EN_0 := e2_entL (u := 3) (j := 5) (lo := 2147483648) (hi := 2147483678) hl0 rfl rfl rfl ci_a102_0 cj_a102_0 L_0
  exact e2_from hen ha hcall (e2_cutA_ok (e2_fa (fun al st E h hc => EN_0 al st E h hc) e2_fz)) (hC []) (X := e2x_59) ex2_59 0 ck_a102_e
/-! a103 X3_parseNot -/
def as_a103 : List ev_V := [(2, 33, 0), (2, 27, 0), (0, 0, 0)]
def E_a103 : e2_E := [(2147483648, 2147583648, 0, 0), (2147483652, 2147483668, 1, 0), (2147483648, 2147485248, 2, 0)]
noncomputable def f_a103 : ev_H := (an635 : e2_Q8)
noncomputable def q_a103_0 : ev_H := (an635 : e2_Q8)
noncomputable def rs_a103 : e2_Rs := [((11, 2147483648, 2147483649), q_a103_0)]
noncomputable def s_a103 : e2_Sm := (61, as_a103, E_a103, f_a103, rs_a103)
noncomputable def S_a103 : List e2_Sm := [s_a38, s_a96]
noncomputable def I_a103 : List e2_In := [(19, 2, e2x_19), (20, 2, e2x_20)]
set_option maxRecDepth 1000000 in
theorem ck_a103 : e2_run (e2_cal S_a103 I_a103 4000 2) (e2_fin rs_a103) e2x_61 (fun _ => false) (fun _ _ _ _ _ => false) 4000 (e2_seek e2x_61 0) (e2_al 3 as_a103) [] E_a103 f_a103 = true := by decide +kernel
set_option maxRecDepth 1000000 in
theorem co_a103 : e2_okSB E_a103.length as_a103 f_a103 rs_a103 = true := by decide +kernel
theorem cs_a103 (hen : en_ok) (l : Launch) (hh : e2_hand_a l) : e2_smOk l 192 s_a103 := e2_con0 (H := 189) (n := 2) (C := evd_61) (S := S_a103) (I := I_a103) (fuel := 4000) [] hen ei_61 (e2_fa ((cs_a38 hen l hh).mono (by decide)) (e2_fa (cs_a96 hen l hh) e2_fz)) (e2_fa ein_19 (e2_fa ein_20 e2_fz)) (by decide) co_a103 ex2_61 ck_a103
/-! a104 X3_parseLevel -/
def as_a104 : List ev_V := [(2, 33, 0), (2, 27, 0), (0, 2, 0), (0, 0, 0)]
def E_a104 : e2_E := [(2147483648, 2147583648, 0, 0), (2147483652, 2147483668, 1, 0), (2147483648, 2147485248, 2, 0)]
noncomputable def f_a104 : ev_H := (an635 : e2_Q8)
noncomputable def q_a104_0 : ev_H := (an635 : e2_Q8)
noncomputable def rs_a104 : e2_Rs := [((11, 2147483648, 2147483649), q_a104_0)]
noncomputable def s_a104 : e2_Sm := (59, as_a104, E_a104, f_a104, rs_a104)
noncomputable def S_a104 : List e2_Sm := [s_a38, s_a102, s_a103]
noncomputable def I_a104 : List e2_In := [(19, 2, e2x_19), (20, 2, e2x_20), (60, 1, e2x_60)]
set_option maxRecDepth 1000000 in
theorem co_a104 : e2_okSB E_a104.length as_a104 f_a104 rs_a104 = true := by decide +kernel
def al_a104_0 : List ev_V := [(2, 33, 0), (2, 27, 0), (0, 2, 0), (0, 0, 0), (0, 1, 0), (1, 3, 4294967296), (9, 0, 0)]
def E_a104_0 : e2_E := [(2147483648, 2147583648, 0, 0), (2147483652, 2147483668, 1, 0), (2147483648, 2147485248, 2, 0), (2147483648, 2147483649, 3, 0)]
noncomputable def h_a104_0 : ev_H := (an635 : e2_Q8)
noncomputable def cl_a104_e : List (Nat × e2_S) := [(66, e2_cutL (al_a104_0.set 5 (11, 2147483648, 2147483649)) 3 (E_a104_0.take 3) h_a104_0)]
set_option maxRecDepth 1000000 in
theorem ck_a104_e : e2_run (e2_cal S_a104 I_a104 4000 2) (e2_fin rs_a104) e2x_59 (e2_bpL cl_a104_e) (e2_cutA cl_a104_e) 4000 (e2_seek e2x_59 0) (e2_al 7 as_a104) [] E_a104 f_a104 = true := by decide +kernel
noncomputable def cl_a104_0 : List (Nat × e2_S) := [(66, e2_cutL (al_a104_0.set 5 (13, 11, 2147483649)) 3 (E_a104_0.take 3) h_a104_0)]
set_option maxRecDepth 1000000 in
theorem ck_a104_0 : e2_runM (e2_cal S_a104 I_a104 4000 2) (e2_fin rs_a104) e2x_59 (e2_bpL cl_a104_0) (e2_cutA cl_a104_0) 4000 (e2_seek e2x_59 66) al_a104_0 [] E_a104_0 h_a104_0 = true := by decide +kernel
set_option maxRecDepth 1000000 in
theorem ci_a104_0 : e2_idl 3 (al_a104_0.set 5 (9, 0, 0)) = true := by decide +kernel
set_option maxRecDepth 1000000 in
theorem cj_a104_0 : e2_idh 3 8 h_a104_0 = true := by decide +kernel
theorem cs_a104 (hen : en_ok) (l : Launch) (hh : e2_hand_a l) : e2_smOk l 208 s_a104 := by
  refine e2_conG (H := 205) (n := 2) (C := evd_59) (S := S_a104) (I := I_a104) (fuel := 4000) hen ei_59 (e2_fa ((cs_a38 hen l hh).mono (by decide)) (e2_fa (cs_a102 hen l hh) (e2_fa ((cs_a103 hen l hh).mono (by decide)) e2_fz))) (e2_fa ein_19 (e2_fa ein_20 (e2_fa ein_60 e2_fz))) (by decide) co_a104 fun M d _ hC hcall p e R s m args below meth c Q D cA A ads r0 ha hl0 => ?_
  have L_0 : e2_gdM M p l e R s m args below meth c Q D cA A ads r0 66 al_a104_0 [] E_a104_0 h_a104_0 := by
    refine e2_indL (u := 3) (j := 5) (lo := 2147483648) (hi := 2147483649) (b := 3) (dd := 0) hl0 (by decide) rfl rfl (Or.inr ⟨rfl, rfl⟩) rfl ci_a104_0 cj_a104_0 ?_
    intro r_0 k_0 hk_0 hp_0 hs_0 hn_0
    have hl_0 : r_0.length ≤ 4 := hs_0.len rfl
    have ha_0 := ha.ext hp_0
    exact e2_fromM hen ha_0 hcall (e2_cutA_ok (e2_fa (fun al st E h hc => hn_0 al st E h hc) e2_fz)) (hC []) (X := e2x_59) ex2_59 66 ck_a104_0
  have EN_0 := e2_entL (u := 3) (j := 5) (lo := 2147483648) (hi := 2147483649) hl0 rfl rfl rfl ci_a104_0 cj_a104_0 L_0
  exact e2_from hen ha hcall (e2_cutA_ok (e2_fa (fun al st E h hc => EN_0 al st E h hc) e2_fz)) (hC []) (X := e2x_59) ex2_59 0 ck_a104_e
/-! a105 X3_parseLevel -/
def as_a105 : List ev_V := [(2, 33, 0), (2, 27, 0), (0, 1, 0), (0, 0, 0)]
def E_a105 : e2_E := [(2147483648, 2147583648, 0, 0), (2147483652, 2147483668, 1, 0), (2147483648, 2147485248, 2, 0)]
noncomputable def f_a105 : ev_H := (an635 : e2_Q8)
noncomputable def q_a105_0 : ev_H := (an635 : e2_Q8)
noncomputable def rs_a105 : e2_Rs := [((11, 2147483648, 2147483649), q_a105_0)]
noncomputable def s_a105 : e2_Sm := (59, as_a105, E_a105, f_a105, rs_a105)
noncomputable def S_a105 : List e2_Sm := [s_a38, s_a104]
noncomputable def I_a105 : List e2_In := [(19, 2, e2x_19), (20, 2, e2x_20), (60, 1, e2x_60)]
set_option maxRecDepth 1000000 in
theorem co_a105 : e2_okSB E_a105.length as_a105 f_a105 rs_a105 = true := by decide +kernel
def al_a105_0 : List ev_V := [(2, 33, 0), (2, 27, 0), (0, 1, 0), (0, 0, 0), (0, 30, 0), (1, 3, 4294967296), (9, 0, 0)]
def E_a105_0 : e2_E := [(2147483648, 2147583648, 0, 0), (2147483652, 2147483668, 1, 0), (2147483648, 2147485248, 2, 0), (2147483648, 2147483678, 3, 0)]
noncomputable def h_a105_0 : ev_H := (an635 : e2_Q8)
noncomputable def cl_a105_e : List (Nat × e2_S) := [(66, e2_cutL (al_a105_0.set 5 (11, 2147483648, 2147483678)) 3 (E_a105_0.take 3) h_a105_0)]
set_option maxRecDepth 1000000 in
theorem ck_a105_e : e2_run (e2_cal S_a105 I_a105 4000 2) (e2_fin rs_a105) e2x_59 (e2_bpL cl_a105_e) (e2_cutA cl_a105_e) 4000 (e2_seek e2x_59 0) (e2_al 7 as_a105) [] E_a105 f_a105 = true := by decide +kernel
noncomputable def cl_a105_0 : List (Nat × e2_S) := [(66, e2_cutL (al_a105_0.set 5 (13, 11, 2147483678)) 3 (E_a105_0.take 3) h_a105_0)]
set_option maxRecDepth 1000000 in
theorem ck_a105_0 : e2_runM (e2_cal S_a105 I_a105 4000 2) (e2_fin rs_a105) e2x_59 (e2_bpL cl_a105_0) (e2_cutA cl_a105_0) 4000 (e2_seek e2x_59 66) al_a105_0 [] E_a105_0 h_a105_0 = true := by decide +kernel
set_option maxRecDepth 1000000 in
theorem ci_a105_0 : e2_idl 3 (al_a105_0.set 5 (9, 0, 0)) = true := by decide +kernel
set_option maxRecDepth 1000000 in
theorem cj_a105_0 : e2_idh 3 8 h_a105_0 = true := by decide +kernel
theorem cs_a105 (hen : en_ok) (l : Launch) (hh : e2_hand_a l) : e2_smOk l 211 s_a105 := by
  refine e2_conG (H := 208) (n := 2) (C := evd_59) (S := S_a105) (I := I_a105) (fuel := 4000) hen ei_59 (e2_fa ((cs_a38 hen l hh).mono (by decide)) (e2_fa (cs_a104 hen l hh) e2_fz)) (e2_fa ein_19 (e2_fa ein_20 (e2_fa ein_60 e2_fz))) (by decide) co_a105 fun M d _ hC hcall p e R s m args below meth c Q D cA A ads r0 ha hl0 => ?_
  have L_0 : e2_gdM M p l e R s m args below meth c Q D cA A ads r0 66 al_a105_0 [] E_a105_0 h_a105_0 := by
    refine e2_indL (u := 3) (j := 5) (lo := 2147483648) (hi := 2147483678) (b := 3) (dd := 0) hl0 (by decide) rfl rfl (Or.inr ⟨rfl, rfl⟩) rfl ci_a105_0 cj_a105_0 ?_
    intro r_0 k_0 hk_0 hp_0 hs_0 hn_0
    have hl_0 : r_0.length ≤ 4 := hs_0.len rfl
    have ha_0 := ha.ext hp_0
    exact e2_fromM hen ha_0 hcall (e2_cutA_ok (e2_fa (fun al st E h hc => hn_0 al st E h hc) e2_fz)) (hC []) (X := e2x_59) ex2_59 66 ck_a105_0
  have EN_0 := e2_entL (u := 3) (j := 5) (lo := 2147483648) (hi := 2147483678) hl0 rfl rfl rfl ci_a105_0 cj_a105_0 L_0
  exact e2_from hen ha hcall (e2_cutA_ok (e2_fa (fun al st E h hc => EN_0 al st E h hc) e2_fz)) (hC []) (X := e2x_59) ex2_59 0 ck_a105_e
/-! a106 X3_parseLevel -/
def as_a106 : List ev_V := [(2, 33, 0), (2, 27, 0), (0, 0, 0), (0, 0, 0)]
def E_a106 : e2_E := [(2147483648, 2147583648, 0, 0), (2147483652, 2147483668, 1, 0), (2147483648, 2147485248, 2, 0)]
noncomputable def f_a106 : ev_H := (an635 : e2_Q8)
noncomputable def q_a106_0 : ev_H := (an635 : e2_Q8)
noncomputable def rs_a106 : e2_Rs := [((11, 2147483648, 2147483649), q_a106_0)]
noncomputable def s_a106 : e2_Sm := (59, as_a106, E_a106, f_a106, rs_a106)
noncomputable def S_a106 : List e2_Sm := [s_a38, s_a105]
noncomputable def I_a106 : List e2_In := [(19, 2, e2x_19), (20, 2, e2x_20), (60, 1, e2x_60)]
set_option maxRecDepth 1000000 in
theorem co_a106 : e2_okSB E_a106.length as_a106 f_a106 rs_a106 = true := by decide +kernel
def al_a106_0 : List ev_V := [(2, 33, 0), (2, 27, 0), (0, 0, 0), (0, 0, 0), (0, 30, 0), (1, 3, 4294967296), (9, 0, 0)]
def E_a106_0 : e2_E := [(2147483648, 2147583648, 0, 0), (2147483652, 2147483668, 1, 0), (2147483648, 2147485248, 2, 0), (2147483648, 2147483678, 3, 0)]
noncomputable def h_a106_0 : ev_H := (an635 : e2_Q8)
noncomputable def cl_a106_e : List (Nat × e2_S) := [(66, e2_cutL (al_a106_0.set 5 (11, 2147483648, 2147483678)) 3 (E_a106_0.take 3) h_a106_0)]
set_option maxRecDepth 1000000 in
theorem ck_a106_e : e2_run (e2_cal S_a106 I_a106 4000 2) (e2_fin rs_a106) e2x_59 (e2_bpL cl_a106_e) (e2_cutA cl_a106_e) 4000 (e2_seek e2x_59 0) (e2_al 7 as_a106) [] E_a106 f_a106 = true := by decide +kernel
noncomputable def cl_a106_0 : List (Nat × e2_S) := [(66, e2_cutL (al_a106_0.set 5 (13, 11, 2147483678)) 3 (E_a106_0.take 3) h_a106_0)]
set_option maxRecDepth 1000000 in
theorem ck_a106_0 : e2_runM (e2_cal S_a106 I_a106 4000 2) (e2_fin rs_a106) e2x_59 (e2_bpL cl_a106_0) (e2_cutA cl_a106_0) 4000 (e2_seek e2x_59 66) al_a106_0 [] E_a106_0 h_a106_0 = true := by decide +kernel
set_option maxRecDepth 1000000 in
theorem ci_a106_0 : e2_idl 3 (al_a106_0.set 5 (9, 0, 0)) = true := by decide +kernel
set_option maxRecDepth 1000000 in
theorem cj_a106_0 : e2_idh 3 8 h_a106_0 = true := by decide +kernel
theorem cs_a106 (hen : en_ok) (l : Launch) (hh : e2_hand_a l) : e2_smOk l 214 s_a106 := by
  refine e2_conG (H := 211) (n := 2) (C := evd_59) (S := S_a106) (I := I_a106) (fuel := 4000) hen ei_59 (e2_fa ((cs_a38 hen l hh).mono (by decide)) (e2_fa (cs_a105 hen l hh) e2_fz)) (e2_fa ein_19 (e2_fa ein_20 (e2_fa ein_60 e2_fz))) (by decide) co_a106 fun M d _ hC hcall p e R s m args below meth c Q D cA A ads r0 ha hl0 => ?_
  have L_0 : e2_gdM M p l e R s m args below meth c Q D cA A ads r0 66 al_a106_0 [] E_a106_0 h_a106_0 := by
    refine e2_indL (u := 3) (j := 5) (lo := 2147483648) (hi := 2147483678) (b := 3) (dd := 0) hl0 (by decide) rfl rfl (Or.inr ⟨rfl, rfl⟩) rfl ci_a106_0 cj_a106_0 ?_
    intro r_0 k_0 hk_0 hp_0 hs_0 hn_0
    have hl_0 : r_0.length ≤ 4 := hs_0.len rfl
    have ha_0 := ha.ext hp_0
    exact e2_fromM hen ha_0 hcall (e2_cutA_ok (e2_fa (fun al st E h hc => hn_0 al st E h hc) e2_fz)) (hC []) (X := e2x_59) ex2_59 66 ck_a106_0
  have EN_0 := e2_entL (u := 3) (j := 5) (lo := 2147483648) (hi := 2147483678) hl0 rfl rfl rfl ci_a106_0 cj_a106_0 L_0
  exact e2_from hen ha hcall (e2_cutA_ok (e2_fa (fun al st E h hc => EN_0 al st E h hc) e2_fz)) (hC []) (X := e2x_59) ex2_59 0 ck_a106_e
/-! a107 X3_parseFormula -/
def as_a107 : List ev_V := [(2, 33, 0), (2, 27, 0)]
def E_a107 : e2_E := [(2147483648, 2147583648, 0, 0), (2147483652, 2147483668, 1, 0), (2147483648, 2147485248, 2, 0)]
noncomputable def f_a107 : ev_H := (an635 : e2_Q8)
noncomputable def q_a107_0 : ev_H := (an635 : e2_Q8)
noncomputable def rs_a107 : e2_Rs := [((11, 2147483648, 2147483649), q_a107_0)]
noncomputable def s_a107 : e2_Sm := (58, as_a107, E_a107, f_a107, rs_a107)
noncomputable def S_a107 : List e2_Sm := [s_a38, s_a39, s_a106]
noncomputable def I_a107 : List e2_In := [(17, 1, e2x_17), (43, 2, e2x_43), (44, 3, e2x_44)]
set_option maxRecDepth 1000000 in
theorem ck_a107 : e2_run (e2_cal S_a107 I_a107 4000 2) (e2_fin rs_a107) e2x_58 (fun _ => false) (fun _ _ _ _ _ => false) 4000 (e2_seek e2x_58 0) (e2_al 2 as_a107) [] E_a107 f_a107 = true := by decide +kernel
set_option maxRecDepth 1000000 in
theorem co_a107 : e2_okSB E_a107.length as_a107 f_a107 rs_a107 = true := by decide +kernel
theorem cs_a107 (hen : en_ok) (l : Launch) (hh : e2_hand_a l) : e2_smOk l 217 s_a107 := e2_con0 (H := 214) (n := 2) (C := evd_58) (S := S_a107) (I := I_a107) (fuel := 4000) [] hen ei_58 (e2_fa ((cs_a38 hen l hh).mono (by decide)) (e2_fa ((cs_a39 hen l hh).mono (by decide)) (e2_fa (cs_a106 hen l hh) e2_fz))) (e2_fa ein_17 (e2_fa ein_43 (e2_fa ein_44 e2_fz))) (by decide) co_a107 ex2_58 ck_a107
/-! a108 X3_parseUnit -/
def as_a108 : List ev_V := [(2, 33, 0), (2, 30, 0), (0, 7, 0)]
def E_a108 : e2_E := [(2147483648, 2147583648, 0, 0), (2147483652, 2147483668, 1, 0), (2147483648, 2147485248, 2, 0)]
def ac174 : ev_C := (0, [(2, 31, 0), (2, 32, 0), (11, 0, 4294967295), (11, 2147483648, 2147483948)])
def an638 : e2_Q1 := (ac174, ac3)
def an639 : e2_Q2 := (an638, an117)
def an640 : e2_Q3 := (an639, an121)
def an641 : e2_Q4 := (an115, an640)
def an642 : e2_Q5 := (an108, an641)
def an643 : e2_Q6 := (an267, an642)
def an644 : e2_Q7 := (an62, an643)
def an645 : e2_Q2 := (an477, an244)
def an646 : e2_Q3 := (an645, an248)
def an647 : e2_Q4 := (an242, an646)
def an648 : e2_Q5 := (an235, an647)
def an649 : e2_Q6 := (an220, an648)
def an650 : e2_Q7 := (an603, an649)
def an651 : e2_Q8 := (an644, an650)
noncomputable def f_a108 : ev_H := (an651 : e2_Q8)
noncomputable def q_a108_0 : ev_H := (an651 : e2_Q8)
noncomputable def rs_a108 : e2_Rs := [((11, 2147483648, 2147483649), q_a108_0)]
noncomputable def s_a108 : e2_Sm := (62, as_a108, E_a108, f_a108, rs_a108)
noncomputable def S_a108 : List e2_Sm := [s_a38]
noncomputable def I_a108 : List e2_In := [(18, 2, e2x_18), (19, 2, e2x_19), (20, 2, e2x_20), (43, 2, e2x_43), (44, 3, e2x_44)]
set_option maxRecDepth 1000000 in
theorem ck_a108 : e2_run (e2_cal S_a108 I_a108 4000 2) (e2_fin rs_a108) e2x_62 (fun _ => false) (fun _ _ _ _ _ => false) 4000 (e2_seek e2x_62 0) (e2_al 7 as_a108) [] E_a108 f_a108 = true := by decide +kernel
set_option maxRecDepth 1000000 in
theorem co_a108 : e2_okSB E_a108.length as_a108 f_a108 rs_a108 = true := by decide +kernel
theorem cs_a108 (hen : en_ok) (l : Launch) (hh : e2_hand_a l) : e2_smOk l 65 s_a108 := e2_con0 (H := 62) (n := 2) (C := evd_62) (S := S_a108) (I := I_a108) (fuel := 4000) [] hen ei_62 (e2_fa (cs_a38 hen l hh) e2_fz) (e2_fa ein_18 (e2_fa ein_19 (e2_fa ein_20 (e2_fa ein_43 (e2_fa ein_44 e2_fz))))) (by decide) co_a108 ex2_62 ck_a108
/-! a109 X3_parseLevel -/
def as_a109 : List ev_V := [(2, 33, 0), (2, 30, 0), (0, 5, 0), (0, 7, 0)]
def E_a109 : e2_E := [(2147483648, 2147583648, 0, 0), (2147483652, 2147483668, 1, 0), (2147483648, 2147485248, 2, 0)]
noncomputable def f_a109 : ev_H := (an651 : e2_Q8)
noncomputable def q_a109_0 : ev_H := (an651 : e2_Q8)
noncomputable def rs_a109 : e2_Rs := [((11, 2147483648, 2147483649), q_a109_0)]
noncomputable def s_a109 : e2_Sm := (59, as_a109, E_a109, f_a109, rs_a109)
noncomputable def S_a109 : List e2_Sm := [s_a108]
noncomputable def I_a109 : List e2_In := []
set_option maxRecDepth 1000000 in
theorem ck_a109 : e2_run (e2_cal S_a109 I_a109 4000 0) (e2_fin rs_a109) e2x_59 (fun _ => false) (fun _ _ _ _ _ => false) 4000 (e2_seek e2x_59 0) (e2_al 7 as_a109) [] E_a109 f_a109 = true := by decide +kernel
set_option maxRecDepth 1000000 in
theorem co_a109 : e2_okSB E_a109.length as_a109 f_a109 rs_a109 = true := by decide +kernel
theorem cs_a109 (hen : en_ok) (l : Launch) (hh : e2_hand_a l) : e2_smOk l 66 s_a109 := e2_con0 (H := 65) (n := 0) (C := evd_59) (S := S_a109) (I := I_a109) (fuel := 4000) [] hen ei_59 (e2_fa (cs_a108 hen l hh) e2_fz) e2_fz (by decide) co_a109 ex2_59 ck_a109
/-! a110 X3_parseLevel -/
def as_a110 : List ev_V := [(2, 33, 0), (2, 30, 0), (0, 4, 0), (0, 7, 0)]
def E_a110 : e2_E := [(2147483648, 2147583648, 0, 0), (2147483652, 2147483668, 1, 0), (2147483648, 2147485248, 2, 0)]
noncomputable def f_a110 : ev_H := (an651 : e2_Q8)
noncomputable def q_a110_0 : ev_H := (an651 : e2_Q8)
noncomputable def rs_a110 : e2_Rs := [((11, 2147483648, 2147483649), q_a110_0)]
noncomputable def s_a110 : e2_Sm := (59, as_a110, E_a110, f_a110, rs_a110)
noncomputable def S_a110 : List e2_Sm := [s_a38, s_a109]
noncomputable def I_a110 : List e2_In := [(19, 2, e2x_19), (20, 2, e2x_20), (60, 1, e2x_60)]
set_option maxRecDepth 1000000 in
theorem co_a110 : e2_okSB E_a110.length as_a110 f_a110 rs_a110 = true := by decide +kernel
def al_a110_0 : List ev_V := [(2, 33, 0), (2, 30, 0), (0, 4, 0), (0, 7, 0), (0, 30, 0), (1, 3, 4294967296), (9, 0, 0)]
def E_a110_0 : e2_E := [(2147483648, 2147583648, 0, 0), (2147483652, 2147483668, 1, 0), (2147483648, 2147485248, 2, 0), (2147483648, 2147483678, 3, 0)]
noncomputable def h_a110_0 : ev_H := (an651 : e2_Q8)
noncomputable def cl_a110_e : List (Nat × e2_S) := [(66, e2_cutL (al_a110_0.set 5 (11, 2147483648, 2147483678)) 3 (E_a110_0.take 3) h_a110_0)]
set_option maxRecDepth 1000000 in
theorem ck_a110_e : e2_run (e2_cal S_a110 I_a110 4000 2) (e2_fin rs_a110) e2x_59 (e2_bpL cl_a110_e) (e2_cutA cl_a110_e) 4000 (e2_seek e2x_59 0) (e2_al 7 as_a110) [] E_a110 f_a110 = true := by decide +kernel
noncomputable def cl_a110_0 : List (Nat × e2_S) := [(66, e2_cutL (al_a110_0.set 5 (13, 11, 2147483678)) 3 (E_a110_0.take 3) h_a110_0)]
set_option maxRecDepth 1000000 in
theorem ck_a110_0 : e2_runM (e2_cal S_a110 I_a110 4000 2) (e2_fin rs_a110) e2x_59 (e2_bpL cl_a110_0) (e2_cutA cl_a110_0) 4000 (e2_seek e2x_59 66) al_a110_0 [] E_a110_0 h_a110_0 = true := by decide +kernel
set_option maxRecDepth 1000000 in
theorem ci_a110_0 : e2_idl 3 (al_a110_0.set 5 (9, 0, 0)) = true := by decide +kernel
set_option maxRecDepth 1000000 in
theorem cj_a110_0 : e2_idh 3 8 h_a110_0 = true := by decide +kernel
theorem cs_a110 (hen : en_ok) (l : Launch) (hh : e2_hand_a l) : e2_smOk l 69 s_a110 := by
  refine e2_conG (H := 66) (n := 2) (C := evd_59) (S := S_a110) (I := I_a110) (fuel := 4000) hen ei_59 (e2_fa ((cs_a38 hen l hh).mono (by decide)) (e2_fa (cs_a109 hen l hh) e2_fz)) (e2_fa ein_19 (e2_fa ein_20 (e2_fa ein_60 e2_fz))) (by decide) co_a110 fun M d _ hC hcall p e R s m args below meth c Q D cA A ads r0 ha hl0 => ?_
  have L_0 : e2_gdM M p l e R s m args below meth c Q D cA A ads r0 66 al_a110_0 [] E_a110_0 h_a110_0 := by
    refine e2_indL (u := 3) (j := 5) (lo := 2147483648) (hi := 2147483678) (b := 3) (dd := 0) hl0 (by decide) rfl rfl (Or.inr ⟨rfl, rfl⟩) rfl ci_a110_0 cj_a110_0 ?_
    intro r_0 k_0 hk_0 hp_0 hs_0 hn_0
    have hl_0 : r_0.length ≤ 4 := hs_0.len rfl
    have ha_0 := ha.ext hp_0
    exact e2_fromM hen ha_0 hcall (e2_cutA_ok (e2_fa (fun al st E h hc => hn_0 al st E h hc) e2_fz)) (hC []) (X := e2x_59) ex2_59 66 ck_a110_0
  have EN_0 := e2_entL (u := 3) (j := 5) (lo := 2147483648) (hi := 2147483678) hl0 rfl rfl rfl ci_a110_0 cj_a110_0 L_0
  exact e2_from hen ha hcall (e2_cutA_ok (e2_fa (fun al st E h hc => EN_0 al st E h hc) e2_fz)) (hC []) (X := e2x_59) ex2_59 0 ck_a110_e
/-! a111 X3_parseLevel -/
def as_a111 : List ev_V := [(2, 33, 0), (2, 30, 0), (0, 3, 0), (0, 7, 0)]
def E_a111 : e2_E := [(2147483648, 2147583648, 0, 0), (2147483652, 2147483668, 1, 0), (2147483648, 2147485248, 2, 0)]
noncomputable def f_a111 : ev_H := (an651 : e2_Q8)
noncomputable def q_a111_0 : ev_H := (an651 : e2_Q8)
noncomputable def rs_a111 : e2_Rs := [((11, 2147483648, 2147483649), q_a111_0)]
noncomputable def s_a111 : e2_Sm := (59, as_a111, E_a111, f_a111, rs_a111)
noncomputable def S_a111 : List e2_Sm := [s_a38, s_a110]
noncomputable def I_a111 : List e2_In := [(19, 2, e2x_19), (20, 2, e2x_20), (60, 1, e2x_60)]
set_option maxRecDepth 1000000 in
theorem co_a111 : e2_okSB E_a111.length as_a111 f_a111 rs_a111 = true := by decide +kernel
def al_a111_0 : List ev_V := [(2, 33, 0), (2, 30, 0), (0, 3, 0), (0, 7, 0), (0, 30, 0), (1, 3, 4294967296), (9, 0, 0)]
def E_a111_0 : e2_E := [(2147483648, 2147583648, 0, 0), (2147483652, 2147483668, 1, 0), (2147483648, 2147485248, 2, 0), (2147483648, 2147483678, 3, 0)]
noncomputable def h_a111_0 : ev_H := (an651 : e2_Q8)
noncomputable def cl_a111_e : List (Nat × e2_S) := [(66, e2_cutL (al_a111_0.set 5 (11, 2147483648, 2147483678)) 3 (E_a111_0.take 3) h_a111_0)]
set_option maxRecDepth 1000000 in
theorem ck_a111_e : e2_run (e2_cal S_a111 I_a111 4000 2) (e2_fin rs_a111) e2x_59 (e2_bpL cl_a111_e) (e2_cutA cl_a111_e) 4000 (e2_seek e2x_59 0) (e2_al 7 as_a111) [] E_a111 f_a111 = true := by decide +kernel
noncomputable def cl_a111_0 : List (Nat × e2_S) := [(66, e2_cutL (al_a111_0.set 5 (13, 11, 2147483678)) 3 (E_a111_0.take 3) h_a111_0)]
set_option maxRecDepth 1000000 in
theorem ck_a111_0 : e2_runM (e2_cal S_a111 I_a111 4000 2) (e2_fin rs_a111) e2x_59 (e2_bpL cl_a111_0) (e2_cutA cl_a111_0) 4000 (e2_seek e2x_59 66) al_a111_0 [] E_a111_0 h_a111_0 = true := by decide +kernel
set_option maxRecDepth 1000000 in
theorem ci_a111_0 : e2_idl 3 (al_a111_0.set 5 (9, 0, 0)) = true := by decide +kernel
set_option maxRecDepth 1000000 in
theorem cj_a111_0 : e2_idh 3 8 h_a111_0 = true := by decide +kernel
theorem cs_a111 (hen : en_ok) (l : Launch) (hh : e2_hand_a l) : e2_smOk l 72 s_a111 := by
  refine e2_conG (H := 69) (n := 2) (C := evd_59) (S := S_a111) (I := I_a111) (fuel := 4000) hen ei_59 (e2_fa ((cs_a38 hen l hh).mono (by decide)) (e2_fa (cs_a110 hen l hh) e2_fz)) (e2_fa ein_19 (e2_fa ein_20 (e2_fa ein_60 e2_fz))) (by decide) co_a111 fun M d _ hC hcall p e R s m args below meth c Q D cA A ads r0 ha hl0 => ?_
  have L_0 : e2_gdM M p l e R s m args below meth c Q D cA A ads r0 66 al_a111_0 [] E_a111_0 h_a111_0 := by
    refine e2_indL (u := 3) (j := 5) (lo := 2147483648) (hi := 2147483678) (b := 3) (dd := 0) hl0 (by decide) rfl rfl (Or.inr ⟨rfl, rfl⟩) rfl ci_a111_0 cj_a111_0 ?_
    intro r_0 k_0 hk_0 hp_0 hs_0 hn_0
    have hl_0 : r_0.length ≤ 4 := hs_0.len rfl
    have ha_0 := ha.ext hp_0
    exact e2_fromM hen ha_0 hcall (e2_cutA_ok (e2_fa (fun al st E h hc => hn_0 al st E h hc) e2_fz)) (hC []) (X := e2x_59) ex2_59 66 ck_a111_0
  have EN_0 := e2_entL (u := 3) (j := 5) (lo := 2147483648) (hi := 2147483678) hl0 rfl rfl rfl ci_a111_0 cj_a111_0 L_0
  exact e2_from hen ha hcall (e2_cutA_ok (e2_fa (fun al st E h hc => EN_0 al st E h hc) e2_fz)) (hC []) (X := e2x_59) ex2_59 0 ck_a111_e
/-! a112 X3_parseNot -/
def as_a112 : List ev_V := [(2, 33, 0), (2, 30, 0), (0, 7, 0)]
def E_a112 : e2_E := [(2147483648, 2147583648, 0, 0), (2147483652, 2147483668, 1, 0), (2147483648, 2147485248, 2, 0)]
noncomputable def f_a112 : ev_H := (an637 : e2_Q8)
noncomputable def q_a112_0 : ev_H := (an637 : e2_Q8)
noncomputable def rs_a112 : e2_Rs := [((0, 0, 0), q_a112_0)]
noncomputable def s_a112 : e2_Sm := (61, as_a112, E_a112, f_a112, rs_a112)
noncomputable def S_a112 : List e2_Sm := []
noncomputable def I_a112 : List e2_In := [(43, 2, e2x_43), (44, 3, e2x_44)]
set_option maxRecDepth 1000000 in
theorem ck_a112 : e2_run (e2_cal S_a112 I_a112 4000 2) (e2_fin rs_a112) e2x_61 (fun _ => false) (fun _ _ _ _ _ => false) 4000 (e2_seek e2x_61 0) (e2_al 3 as_a112) [] E_a112 f_a112 = true := by decide +kernel
set_option maxRecDepth 1000000 in
theorem co_a112 : e2_okSB E_a112.length as_a112 f_a112 rs_a112 = true := by decide +kernel
theorem cs_a112 (hen : en_ok) (l : Launch) : e2_smOk l 3 s_a112 := e2_con0 (H := 0) (n := 2) (C := evd_61) (S := S_a112) (I := I_a112) (fuel := 4000) [] hen ei_61 e2_fz (e2_fa ein_43 (e2_fa ein_44 e2_fz)) (by decide) co_a112 ex2_61 ck_a112
/-! a113 X3_parseLevel -/
def as_a113 : List ev_V := [(2, 33, 0), (2, 30, 0), (0, 2, 0), (0, 7, 0)]
def E_a113 : e2_E := [(2147483648, 2147583648, 0, 0), (2147483652, 2147483668, 1, 0), (2147483648, 2147485248, 2, 0)]
noncomputable def f_a113 : ev_H := (an651 : e2_Q8)
noncomputable def q_a113_0 : ev_H := (an651 : e2_Q8)
noncomputable def rs_a113 : e2_Rs := [((11, 2147483648, 2147483649), q_a113_0)]
noncomputable def s_a113 : e2_Sm := (59, as_a113, E_a113, f_a113, rs_a113)
noncomputable def S_a113 : List e2_Sm := [s_a38, s_a111, s_a112]
noncomputable def I_a113 : List e2_In := [(19, 2, e2x_19), (20, 2, e2x_20), (60, 1, e2x_60)]
set_option maxRecDepth 1000000 in
theorem co_a113 : e2_okSB E_a113.length as_a113 f_a113 rs_a113 = true := by decide +kernel
def al_a113_0 : List ev_V := [(2, 33, 0), (2, 30, 0), (0, 2, 0), (0, 7, 0), (0, 1, 0), (1, 3, 4294967296), (9, 0, 0)]
def E_a113_0 : e2_E := [(2147483648, 2147583648, 0, 0), (2147483652, 2147483668, 1, 0), (2147483648, 2147485248, 2, 0), (2147483648, 2147483649, 3, 0)]
noncomputable def h_a113_0 : ev_H := (an651 : e2_Q8)
noncomputable def cl_a113_e : List (Nat × e2_S) := [(66, e2_cutL (al_a113_0.set 5 (11, 2147483648, 2147483649)) 3 (E_a113_0.take 3) h_a113_0)]
set_option maxRecDepth 1000000 in
theorem ck_a113_e : e2_run (e2_cal S_a113 I_a113 4000 2) (e2_fin rs_a113) e2x_59 (e2_bpL cl_a113_e) (e2_cutA cl_a113_e) 4000 (e2_seek e2x_59 0) (e2_al 7 as_a113) [] E_a113 f_a113 = true := by decide +kernel
noncomputable def cl_a113_0 : List (Nat × e2_S) := [(66, e2_cutL (al_a113_0.set 5 (13, 11, 2147483649)) 3 (E_a113_0.take 3) h_a113_0)]
set_option maxRecDepth 1000000 in
theorem ck_a113_0 : e2_runM (e2_cal S_a113 I_a113 4000 2) (e2_fin rs_a113) e2x_59 (e2_bpL cl_a113_0) (e2_cutA cl_a113_0) 4000 (e2_seek e2x_59 66) al_a113_0 [] E_a113_0 h_a113_0 = true := by decide +kernel
set_option maxRecDepth 1000000 in
theorem ci_a113_0 : e2_idl 3 (al_a113_0.set 5 (9, 0, 0)) = true := by decide +kernel
set_option maxRecDepth 1000000 in
theorem cj_a113_0 : e2_idh 3 8 h_a113_0 = true := by decide +kernel
theorem cs_a113 (hen : en_ok) (l : Launch) (hh : e2_hand_a l) : e2_smOk l 75 s_a113 := by
  refine e2_conG (H := 72) (n := 2) (C := evd_59) (S := S_a113) (I := I_a113) (fuel := 4000) hen ei_59 (e2_fa ((cs_a38 hen l hh).mono (by decide)) (e2_fa (cs_a111 hen l hh) (e2_fa ((cs_a112 hen l).mono (by decide)) e2_fz))) (e2_fa ein_19 (e2_fa ein_20 (e2_fa ein_60 e2_fz))) (by decide) co_a113 fun M d _ hC hcall p e R s m args below meth c Q D cA A ads r0 ha hl0 => ?_
  have L_0 : e2_gdM M p l e R s m args below meth c Q D cA A ads r0 66 al_a113_0 [] E_a113_0 h_a113_0 := by
    refine e2_indL (u := 3) (j := 5) (lo := 2147483648) (hi := 2147483649) (b := 3) (dd := 0) hl0 (by decide) rfl rfl (Or.inr ⟨rfl, rfl⟩) rfl ci_a113_0 cj_a113_0 ?_
    intro r_0 k_0 hk_0 hp_0 hs_0 hn_0
    have hl_0 : r_0.length ≤ 4 := hs_0.len rfl
    have ha_0 := ha.ext hp_0
    exact e2_fromM hen ha_0 hcall (e2_cutA_ok (e2_fa (fun al st E h hc => hn_0 al st E h hc) e2_fz)) (hC []) (X := e2x_59) ex2_59 66 ck_a113_0
  have EN_0 := e2_entL (u := 3) (j := 5) (lo := 2147483648) (hi := 2147483649) hl0 rfl rfl rfl ci_a113_0 cj_a113_0 L_0
  exact e2_from hen ha hcall (e2_cutA_ok (e2_fa (fun al st E h hc => EN_0 al st E h hc) e2_fz)) (hC []) (X := e2x_59) ex2_59 0 ck_a113_e
/-! a114 X3_parseLevel -/
def as_a114 : List ev_V := [(2, 33, 0), (2, 30, 0), (0, 1, 0), (0, 7, 0)]
def E_a114 : e2_E := [(2147483648, 2147583648, 0, 0), (2147483652, 2147483668, 1, 0), (2147483648, 2147485248, 2, 0)]
noncomputable def f_a114 : ev_H := (an651 : e2_Q8)
noncomputable def q_a114_0 : ev_H := (an651 : e2_Q8)
noncomputable def rs_a114 : e2_Rs := [((11, 2147483648, 2147483649), q_a114_0)]
noncomputable def s_a114 : e2_Sm := (59, as_a114, E_a114, f_a114, rs_a114)
noncomputable def S_a114 : List e2_Sm := [s_a38, s_a113]
noncomputable def I_a114 : List e2_In := [(19, 2, e2x_19), (20, 2, e2x_20), (60, 1, e2x_60)]
set_option maxRecDepth 1000000 in
theorem co_a114 : e2_okSB E_a114.length as_a114 f_a114 rs_a114 = true := by decide +kernel
def al_a114_0 : List ev_V := [(2, 33, 0), (2, 30, 0), (0, 1, 0), (0, 7, 0), (0, 30, 0), (1, 3, 4294967296), (9, 0, 0)]
def E_a114_0 : e2_E := [(2147483648, 2147583648, 0, 0), (2147483652, 2147483668, 1, 0), (2147483648, 2147485248, 2, 0), (2147483648, 2147483678, 3, 0)]
noncomputable def h_a114_0 : ev_H := (an651 : e2_Q8)
noncomputable def cl_a114_e : List (Nat × e2_S) := [(66, e2_cutL (al_a114_0.set 5 (11, 2147483648, 2147483678)) 3 (E_a114_0.take 3) h_a114_0)]
set_option maxRecDepth 1000000 in
theorem ck_a114_e : e2_run (e2_cal S_a114 I_a114 4000 2) (e2_fin rs_a114) e2x_59 (e2_bpL cl_a114_e) (e2_cutA cl_a114_e) 4000 (e2_seek e2x_59 0) (e2_al 7 as_a114) [] E_a114 f_a114 = true := by decide +kernel
noncomputable def cl_a114_0 : List (Nat × e2_S) := [(66, e2_cutL (al_a114_0.set 5 (13, 11, 2147483678)) 3 (E_a114_0.take 3) h_a114_0)]
set_option maxRecDepth 1000000 in
theorem ck_a114_0 : e2_runM (e2_cal S_a114 I_a114 4000 2) (e2_fin rs_a114) e2x_59 (e2_bpL cl_a114_0) (e2_cutA cl_a114_0) 4000 (e2_seek e2x_59 66) al_a114_0 [] E_a114_0 h_a114_0 = true := by decide +kernel
set_option maxRecDepth 1000000 in
theorem ci_a114_0 : e2_idl 3 (al_a114_0.set 5 (9, 0, 0)) = true := by decide +kernel
set_option maxRecDepth 1000000 in
theorem cj_a114_0 : e2_idh 3 8 h_a114_0 = true := by decide +kernel
theorem cs_a114 (hen : en_ok) (l : Launch) (hh : e2_hand_a l) : e2_smOk l 78 s_a114 := by
  refine e2_conG (H := 75) (n := 2) (C := evd_59) (S := S_a114) (I := I_a114) (fuel := 4000) hen ei_59 (e2_fa ((cs_a38 hen l hh).mono (by decide)) (e2_fa (cs_a113 hen l hh) e2_fz)) (e2_fa ein_19 (e2_fa ein_20 (e2_fa ein_60 e2_fz))) (by decide) co_a114 fun M d _ hC hcall p e R s m args below meth c Q D cA A ads r0 ha hl0 => ?_
  have L_0 : e2_gdM M p l e R s m args below meth c Q D cA A ads r0 66 al_a114_0 [] E_a114_0 h_a114_0 := by
    refine e2_indL (u := 3) (j := 5) (lo := 2147483648) (hi := 2147483678) (b := 3) (dd := 0) hl0 (by decide) rfl rfl (Or.inr ⟨rfl, rfl⟩) rfl ci_a114_0 cj_a114_0 ?_
    intro r_0 k_0 hk_0 hp_0 hs_0 hn_0
    have hl_0 : r_0.length ≤ 4 := hs_0.len rfl
    have ha_0 := ha.ext hp_0
    exact e2_fromM hen ha_0 hcall (e2_cutA_ok (e2_fa (fun al st E h hc => hn_0 al st E h hc) e2_fz)) (hC []) (X := e2x_59) ex2_59 66 ck_a114_0
  have EN_0 := e2_entL (u := 3) (j := 5) (lo := 2147483648) (hi := 2147483678) hl0 rfl rfl rfl ci_a114_0 cj_a114_0 L_0
  exact e2_from hen ha hcall (e2_cutA_ok (e2_fa (fun al st E h hc => EN_0 al st E h hc) e2_fz)) (hC []) (X := e2x_59) ex2_59 0 ck_a114_e
/-! a115 X3_parseLevel -/
def as_a115 : List ev_V := [(2, 33, 0), (2, 30, 0), (0, 0, 0), (0, 7, 0)]
def E_a115 : e2_E := [(2147483648, 2147583648, 0, 0), (2147483652, 2147483668, 1, 0), (2147483648, 2147485248, 2, 0)]
noncomputable def f_a115 : ev_H := (an651 : e2_Q8)
noncomputable def q_a115_0 : ev_H := (an651 : e2_Q8)
noncomputable def rs_a115 : e2_Rs := [((11, 2147483648, 2147483649), q_a115_0)]
noncomputable def s_a115 : e2_Sm := (59, as_a115, E_a115, f_a115, rs_a115)
noncomputable def S_a115 : List e2_Sm := [s_a38, s_a114]
noncomputable def I_a115 : List e2_In := [(19, 2, e2x_19), (20, 2, e2x_20), (60, 1, e2x_60)]
set_option maxRecDepth 1000000 in
theorem co_a115 : e2_okSB E_a115.length as_a115 f_a115 rs_a115 = true := by decide +kernel
def al_a115_0 : List ev_V := [(2, 33, 0), (2, 30, 0), (0, 0, 0), (0, 7, 0), (0, 30, 0), (1, 3, 4294967296), (9, 0, 0)]
def E_a115_0 : e2_E := [(2147483648, 2147583648, 0, 0), (2147483652, 2147483668, 1, 0), (2147483648, 2147485248, 2, 0), (2147483648, 2147483678, 3, 0)]
noncomputable def h_a115_0 : ev_H := (an651 : e2_Q8)
noncomputable def cl_a115_e : List (Nat × e2_S) := [(66, e2_cutL (al_a115_0.set 5 (11, 2147483648, 2147483678)) 3 (E_a115_0.take 3) h_a115_0)]
set_option maxRecDepth 1000000 in
theorem ck_a115_e : e2_run (e2_cal S_a115 I_a115 4000 2) (e2_fin rs_a115) e2x_59 (e2_bpL cl_a115_e) (e2_cutA cl_a115_e) 4000 (e2_seek e2x_59 0) (e2_al 7 as_a115) [] E_a115 f_a115 = true := by decide +kernel
noncomputable def cl_a115_0 : List (Nat × e2_S) := [(66, e2_cutL (al_a115_0.set 5 (13, 11, 2147483678)) 3 (E_a115_0.take 3) h_a115_0)]
set_option maxRecDepth 1000000 in
theorem ck_a115_0 : e2_runM (e2_cal S_a115 I_a115 4000 2) (e2_fin rs_a115) e2x_59 (e2_bpL cl_a115_0) (e2_cutA cl_a115_0) 4000 (e2_seek e2x_59 66) al_a115_0 [] E_a115_0 h_a115_0 = true := by decide +kernel
set_option maxRecDepth 1000000 in
theorem ci_a115_0 : e2_idl 3 (al_a115_0.set 5 (9, 0, 0)) = true := by decide +kernel
set_option maxRecDepth 1000000 in
theorem cj_a115_0 : e2_idh 3 8 h_a115_0 = true := by decide +kernel
theorem cs_a115 (hen : en_ok) (l : Launch) (hh : e2_hand_a l) : e2_smOk l 81 s_a115 := by
  refine e2_conG (H := 78) (n := 2) (C := evd_59) (S := S_a115) (I := I_a115) (fuel := 4000) hen ei_59 (e2_fa ((cs_a38 hen l hh).mono (by decide)) (e2_fa (cs_a114 hen l hh) e2_fz)) (e2_fa ein_19 (e2_fa ein_20 (e2_fa ein_60 e2_fz))) (by decide) co_a115 fun M d _ hC hcall p e R s m args below meth c Q D cA A ads r0 ha hl0 => ?_
  have L_0 : e2_gdM M p l e R s m args below meth c Q D cA A ads r0 66 al_a115_0 [] E_a115_0 h_a115_0 := by
    refine e2_indL (u := 3) (j := 5) (lo := 2147483648) (hi := 2147483678) (b := 3) (dd := 0) hl0 (by decide) rfl rfl (Or.inr ⟨rfl, rfl⟩) rfl ci_a115_0 cj_a115_0 ?_
    intro r_0 k_0 hk_0 hp_0 hs_0 hn_0
    have hl_0 : r_0.length ≤ 4 := hs_0.len rfl
    have ha_0 := ha.ext hp_0
    exact e2_fromM hen ha_0 hcall (e2_cutA_ok (e2_fa (fun al st E h hc => hn_0 al st E h hc) e2_fz)) (hC []) (X := e2x_59) ex2_59 66 ck_a115_0
  have EN_0 := e2_entL (u := 3) (j := 5) (lo := 2147483648) (hi := 2147483678) hl0 rfl rfl rfl ci_a115_0 cj_a115_0 L_0
  exact e2_from hen ha hcall (e2_cutA_ok (e2_fa (fun al st E h hc => EN_0 al st E h hc) e2_fz)) (hC []) (X := e2x_59) ex2_59 0 ck_a115_e
/-! a116 X3_parseUnit -/
def as_a116 : List ev_V := [(2, 33, 0), (2, 30, 0), (0, 6, 0)]
def E_a116 : e2_E := [(2147483648, 2147583648, 0, 0), (2147483652, 2147483668, 1, 0), (2147483648, 2147485248, 2, 0)]
noncomputable def f_a116 : ev_H := (an651 : e2_Q8)
noncomputable def q_a116_0 : ev_H := (an651 : e2_Q8)
noncomputable def rs_a116 : e2_Rs := [((11, 2147483648, 2147483649), q_a116_0)]
noncomputable def s_a116 : e2_Sm := (62, as_a116, E_a116, f_a116, rs_a116)
noncomputable def S_a116 : List e2_Sm := [s_a38, s_a39, s_a115]
noncomputable def I_a116 : List e2_In := [(18, 2, e2x_18), (19, 2, e2x_19), (20, 2, e2x_20), (43, 2, e2x_43), (44, 3, e2x_44)]
set_option maxRecDepth 1000000 in
theorem ck_a116 : e2_run (e2_cal S_a116 I_a116 4000 2) (e2_fin rs_a116) e2x_62 (fun _ => false) (fun _ _ _ _ _ => false) 4000 (e2_seek e2x_62 0) (e2_al 7 as_a116) [] E_a116 f_a116 = true := by decide +kernel
set_option maxRecDepth 1000000 in
theorem co_a116 : e2_okSB E_a116.length as_a116 f_a116 rs_a116 = true := by decide +kernel
theorem cs_a116 (hen : en_ok) (l : Launch) (hh : e2_hand_a l) : e2_smOk l 84 s_a116 := e2_con0 (H := 81) (n := 2) (C := evd_62) (S := S_a116) (I := I_a116) (fuel := 4000) [] hen ei_62 (e2_fa ((cs_a38 hen l hh).mono (by decide)) (e2_fa ((cs_a39 hen l hh).mono (by decide)) (e2_fa (cs_a115 hen l hh) e2_fz))) (e2_fa ein_18 (e2_fa ein_19 (e2_fa ein_20 (e2_fa ein_43 (e2_fa ein_44 e2_fz))))) (by decide) co_a116 ex2_62 ck_a116
/-! a117 X3_parseLevel -/
def as_a117 : List ev_V := [(2, 33, 0), (2, 30, 0), (0, 5, 0), (0, 6, 0)]
def E_a117 : e2_E := [(2147483648, 2147583648, 0, 0), (2147483652, 2147483668, 1, 0), (2147483648, 2147485248, 2, 0)]
noncomputable def f_a117 : ev_H := (an651 : e2_Q8)
noncomputable def q_a117_0 : ev_H := (an651 : e2_Q8)
noncomputable def rs_a117 : e2_Rs := [((11, 2147483648, 2147483649), q_a117_0)]
noncomputable def s_a117 : e2_Sm := (59, as_a117, E_a117, f_a117, rs_a117)
noncomputable def S_a117 : List e2_Sm := [s_a116]
noncomputable def I_a117 : List e2_In := []
set_option maxRecDepth 1000000 in
theorem ck_a117 : e2_run (e2_cal S_a117 I_a117 4000 0) (e2_fin rs_a117) e2x_59 (fun _ => false) (fun _ _ _ _ _ => false) 4000 (e2_seek e2x_59 0) (e2_al 7 as_a117) [] E_a117 f_a117 = true := by decide +kernel
set_option maxRecDepth 1000000 in
theorem co_a117 : e2_okSB E_a117.length as_a117 f_a117 rs_a117 = true := by decide +kernel
theorem cs_a117 (hen : en_ok) (l : Launch) (hh : e2_hand_a l) : e2_smOk l 85 s_a117 := e2_con0 (H := 84) (n := 0) (C := evd_59) (S := S_a117) (I := I_a117) (fuel := 4000) [] hen ei_59 (e2_fa (cs_a116 hen l hh) e2_fz) e2_fz (by decide) co_a117 ex2_59 ck_a117
/-! a118 X3_parseLevel -/
def as_a118 : List ev_V := [(2, 33, 0), (2, 30, 0), (0, 4, 0), (0, 6, 0)]
def E_a118 : e2_E := [(2147483648, 2147583648, 0, 0), (2147483652, 2147483668, 1, 0), (2147483648, 2147485248, 2, 0)]
noncomputable def f_a118 : ev_H := (an651 : e2_Q8)
noncomputable def q_a118_0 : ev_H := (an651 : e2_Q8)
noncomputable def rs_a118 : e2_Rs := [((11, 2147483648, 2147483649), q_a118_0)]
noncomputable def s_a118 : e2_Sm := (59, as_a118, E_a118, f_a118, rs_a118)
noncomputable def S_a118 : List e2_Sm := [s_a38, s_a117]
noncomputable def I_a118 : List e2_In := [(19, 2, e2x_19), (20, 2, e2x_20), (60, 1, e2x_60)]
set_option maxRecDepth 1000000 in
theorem co_a118 : e2_okSB E_a118.length as_a118 f_a118 rs_a118 = true := by decide +kernel
def al_a118_0 : List ev_V := [(2, 33, 0), (2, 30, 0), (0, 4, 0), (0, 6, 0), (0, 30, 0), (1, 3, 4294967296), (9, 0, 0)]
def E_a118_0 : e2_E := [(2147483648, 2147583648, 0, 0), (2147483652, 2147483668, 1, 0), (2147483648, 2147485248, 2, 0), (2147483648, 2147483678, 3, 0)]
noncomputable def h_a118_0 : ev_H := (an651 : e2_Q8)
noncomputable def cl_a118_e : List (Nat × e2_S) := [(66, e2_cutL (al_a118_0.set 5 (11, 2147483648, 2147483678)) 3 (E_a118_0.take 3) h_a118_0)]
set_option maxRecDepth 1000000 in
theorem ck_a118_e : e2_run (e2_cal S_a118 I_a118 4000 2) (e2_fin rs_a118) e2x_59 (e2_bpL cl_a118_e) (e2_cutA cl_a118_e) 4000 (e2_seek e2x_59 0) (e2_al 7 as_a118) [] E_a118 f_a118 = true := by decide +kernel
noncomputable def cl_a118_0 : List (Nat × e2_S) := [(66, e2_cutL (al_a118_0.set 5 (13, 11, 2147483678)) 3 (E_a118_0.take 3) h_a118_0)]
set_option maxRecDepth 1000000 in
theorem ck_a118_0 : e2_runM (e2_cal S_a118 I_a118 4000 2) (e2_fin rs_a118) e2x_59 (e2_bpL cl_a118_0) (e2_cutA cl_a118_0) 4000 (e2_seek e2x_59 66) al_a118_0 [] E_a118_0 h_a118_0 = true := by decide +kernel
set_option maxRecDepth 1000000 in
theorem ci_a118_0 : e2_idl 3 (al_a118_0.set 5 (9, 0, 0)) = true := by decide +kernel
set_option maxRecDepth 1000000 in
theorem cj_a118_0 : e2_idh 3 8 h_a118_0 = true := by decide +kernel
theorem cs_a118 (hen : en_ok) (l : Launch) (hh : e2_hand_a l) : e2_smOk l 88 s_a118 := by
  refine e2_conG (H := 85) (n := 2) (C := evd_59) (S := S_a118) (I := I_a118) (fuel := 4000) hen ei_59 (e2_fa ((cs_a38 hen l hh).mono (by decide)) (e2_fa (cs_a117 hen l hh) e2_fz)) (e2_fa ein_19 (e2_fa ein_20 (e2_fa ein_60 e2_fz))) (by decide) co_a118 fun M d _ hC hcall p e R s m args below meth c Q D cA A ads r0 ha hl0 => ?_
  have L_0 : e2_gdM M p l e R s m args below meth c Q D cA A ads r0 66 al_a118_0 [] E_a118_0 h_a118_0 := by
    refine e2_indL (u := 3) (j := 5) (lo := 2147483648) (hi := 2147483678) (b := 3) (dd := 0) hl0 (by decide) rfl rfl (Or.inr ⟨rfl, rfl⟩) rfl ci_a118_0 cj_a118_0 ?_
    intro r_0 k_0 hk_0 hp_0 hs_0 hn_0
    have hl_0 : r_0.length ≤ 4 := hs_0.len rfl
    have ha_0 := ha.ext hp_0
    exact e2_fromM hen ha_0 hcall (e2_cutA_ok (e2_fa (fun al st E h hc => hn_0 al st E h hc) e2_fz)) (hC []) (X := e2x_59) ex2_59 66 ck_a118_0
  have EN_0 := e2_entL (u := 3) (j := 5) (lo := 2147483648) (hi := 2147483678) hl0 rfl rfl rfl ci_a118_0 cj_a118_0 L_0
  exact e2_from hen ha hcall (e2_cutA_ok (e2_fa (fun al st E h hc => EN_0 al st E h hc) e2_fz)) (hC []) (X := e2x_59) ex2_59 0 ck_a118_e
/-! a119 X3_parseLevel -/
def as_a119 : List ev_V := [(2, 33, 0), (2, 30, 0), (0, 3, 0), (0, 6, 0)]
def E_a119 : e2_E := [(2147483648, 2147583648, 0, 0), (2147483652, 2147483668, 1, 0), (2147483648, 2147485248, 2, 0)]
noncomputable def f_a119 : ev_H := (an651 : e2_Q8)
noncomputable def q_a119_0 : ev_H := (an651 : e2_Q8)
noncomputable def rs_a119 : e2_Rs := [((11, 2147483648, 2147483649), q_a119_0)]
noncomputable def s_a119 : e2_Sm := (59, as_a119, E_a119, f_a119, rs_a119)
noncomputable def S_a119 : List e2_Sm := [s_a38, s_a118]
noncomputable def I_a119 : List e2_In := [(19, 2, e2x_19), (20, 2, e2x_20), (60, 1, e2x_60)]
set_option maxRecDepth 1000000 in
theorem co_a119 : e2_okSB E_a119.length as_a119 f_a119 rs_a119 = true := by decide +kernel
def al_a119_0 : List ev_V := [(2, 33, 0), (2, 30, 0), (0, 3, 0), (0, 6, 0), (0, 30, 0), (1, 3, 4294967296), (9, 0, 0)]
def E_a119_0 : e2_E := [(2147483648, 2147583648, 0, 0), (2147483652, 2147483668, 1, 0), (2147483648, 2147485248, 2, 0), (2147483648, 2147483678, 3, 0)]
noncomputable def h_a119_0 : ev_H := (an651 : e2_Q8)
noncomputable def cl_a119_e : List (Nat × e2_S) := [(66, e2_cutL (al_a119_0.set 5 (11, 2147483648, 2147483678)) 3 (E_a119_0.take 3) h_a119_0)]
set_option maxRecDepth 1000000 in
theorem ck_a119_e : e2_run (e2_cal S_a119 I_a119 4000 2) (e2_fin rs_a119) e2x_59 (e2_bpL cl_a119_e) (e2_cutA cl_a119_e) 4000 (e2_seek e2x_59 0) (e2_al 7 as_a119) [] E_a119 f_a119 = true := by decide +kernel
noncomputable def cl_a119_0 : List (Nat × e2_S) := [(66, e2_cutL (al_a119_0.set 5 (13, 11, 2147483678)) 3 (E_a119_0.take 3) h_a119_0)]
set_option maxRecDepth 1000000 in
theorem ck_a119_0 : e2_runM (e2_cal S_a119 I_a119 4000 2) (e2_fin rs_a119) e2x_59 (e2_bpL cl_a119_0) (e2_cutA cl_a119_0) 4000 (e2_seek e2x_59 66) al_a119_0 [] E_a119_0 h_a119_0 = true := by decide +kernel
set_option maxRecDepth 1000000 in
theorem ci_a119_0 : e2_idl 3 (al_a119_0.set 5 (9, 0, 0)) = true := by decide +kernel
set_option maxRecDepth 1000000 in
theorem cj_a119_0 : e2_idh 3 8 h_a119_0 = true := by decide +kernel
theorem cs_a119 (hen : en_ok) (l : Launch) (hh : e2_hand_a l) : e2_smOk l 91 s_a119 := by
  refine e2_conG (H := 88) (n := 2) (C := evd_59) (S := S_a119) (I := I_a119) (fuel := 4000) hen ei_59 (e2_fa ((cs_a38 hen l hh).mono (by decide)) (e2_fa (cs_a118 hen l hh) e2_fz)) (e2_fa ein_19 (e2_fa ein_20 (e2_fa ein_60 e2_fz))) (by decide) co_a119 fun M d _ hC hcall p e R s m args below meth c Q D cA A ads r0 ha hl0 => ?_
  have L_0 : e2_gdM M p l e R s m args below meth c Q D cA A ads r0 66 al_a119_0 [] E_a119_0 h_a119_0 := by
    refine e2_indL (u := 3) (j := 5) (lo := 2147483648) (hi := 2147483678) (b := 3) (dd := 0) hl0 (by decide) rfl rfl (Or.inr ⟨rfl, rfl⟩) rfl ci_a119_0 cj_a119_0 ?_
    intro r_0 k_0 hk_0 hp_0 hs_0 hn_0
    have hl_0 : r_0.length ≤ 4 := hs_0.len rfl
    have ha_0 := ha.ext hp_0
    exact e2_fromM hen ha_0 hcall (e2_cutA_ok (e2_fa (fun al st E h hc => hn_0 al st E h hc) e2_fz)) (hC []) (X := e2x_59) ex2_59 66 ck_a119_0
  have EN_0 := e2_entL (u := 3) (j := 5) (lo := 2147483648) (hi := 2147483678) hl0 rfl rfl rfl ci_a119_0 cj_a119_0 L_0
  exact e2_from hen ha hcall (e2_cutA_ok (e2_fa (fun al st E h hc => EN_0 al st E h hc) e2_fz)) (hC []) (X := e2x_59) ex2_59 0 ck_a119_e
/-! a120 X3_parseNot -/
def as_a120 : List ev_V := [(2, 33, 0), (2, 30, 0), (0, 6, 0)]
def E_a120 : e2_E := [(2147483648, 2147583648, 0, 0), (2147483652, 2147483668, 1, 0), (2147483648, 2147485248, 2, 0)]
noncomputable def f_a120 : ev_H := (an651 : e2_Q8)
noncomputable def q_a120_0 : ev_H := (an651 : e2_Q8)
noncomputable def rs_a120 : e2_Rs := [((11, 2147483648, 2147483649), q_a120_0)]
noncomputable def s_a120 : e2_Sm := (61, as_a120, E_a120, f_a120, rs_a120)
noncomputable def S_a120 : List e2_Sm := [s_a38, s_a113]
noncomputable def I_a120 : List e2_In := [(19, 2, e2x_19), (20, 2, e2x_20)]
set_option maxRecDepth 1000000 in
theorem ck_a120 : e2_run (e2_cal S_a120 I_a120 4000 2) (e2_fin rs_a120) e2x_61 (fun _ => false) (fun _ _ _ _ _ => false) 4000 (e2_seek e2x_61 0) (e2_al 3 as_a120) [] E_a120 f_a120 = true := by decide +kernel
set_option maxRecDepth 1000000 in
theorem co_a120 : e2_okSB E_a120.length as_a120 f_a120 rs_a120 = true := by decide +kernel
theorem cs_a120 (hen : en_ok) (l : Launch) (hh : e2_hand_a l) : e2_smOk l 78 s_a120 := e2_con0 (H := 75) (n := 2) (C := evd_61) (S := S_a120) (I := I_a120) (fuel := 4000) [] hen ei_61 (e2_fa ((cs_a38 hen l hh).mono (by decide)) (e2_fa (cs_a113 hen l hh) e2_fz)) (e2_fa ein_19 (e2_fa ein_20 e2_fz)) (by decide) co_a120 ex2_61 ck_a120
/-! a121 X3_parseLevel -/
def as_a121 : List ev_V := [(2, 33, 0), (2, 30, 0), (0, 2, 0), (0, 6, 0)]
def E_a121 : e2_E := [(2147483648, 2147583648, 0, 0), (2147483652, 2147483668, 1, 0), (2147483648, 2147485248, 2, 0)]
noncomputable def f_a121 : ev_H := (an651 : e2_Q8)
noncomputable def q_a121_0 : ev_H := (an651 : e2_Q8)
noncomputable def rs_a121 : e2_Rs := [((11, 2147483648, 2147483649), q_a121_0)]
noncomputable def s_a121 : e2_Sm := (59, as_a121, E_a121, f_a121, rs_a121)
noncomputable def S_a121 : List e2_Sm := [s_a38, s_a119, s_a120]
noncomputable def I_a121 : List e2_In := [(19, 2, e2x_19), (20, 2, e2x_20), (60, 1, e2x_60)]
set_option maxRecDepth 1000000 in
theorem co_a121 : e2_okSB E_a121.length as_a121 f_a121 rs_a121 = true := by decide +kernel
def al_a121_0 : List ev_V := [(2, 33, 0), (2, 30, 0), (0, 2, 0), (0, 6, 0), (0, 1, 0), (1, 3, 4294967296), (9, 0, 0)]
def E_a121_0 : e2_E := [(2147483648, 2147583648, 0, 0), (2147483652, 2147483668, 1, 0), (2147483648, 2147485248, 2, 0), (2147483648, 2147483649, 3, 0)]
noncomputable def h_a121_0 : ev_H := (an651 : e2_Q8)
noncomputable def cl_a121_e : List (Nat × e2_S) := [(66, e2_cutL (al_a121_0.set 5 (11, 2147483648, 2147483649)) 3 (E_a121_0.take 3) h_a121_0)]
set_option maxRecDepth 1000000 in
theorem ck_a121_e : e2_run (e2_cal S_a121 I_a121 4000 2) (e2_fin rs_a121) e2x_59 (e2_bpL cl_a121_e) (e2_cutA cl_a121_e) 4000 (e2_seek e2x_59 0) (e2_al 7 as_a121) [] E_a121 f_a121 = true := by decide +kernel
noncomputable def cl_a121_0 : List (Nat × e2_S) := [(66, e2_cutL (al_a121_0.set 5 (13, 11, 2147483649)) 3 (E_a121_0.take 3) h_a121_0)]
set_option maxRecDepth 1000000 in
theorem ck_a121_0 : e2_runM (e2_cal S_a121 I_a121 4000 2) (e2_fin rs_a121) e2x_59 (e2_bpL cl_a121_0) (e2_cutA cl_a121_0) 4000 (e2_seek e2x_59 66) al_a121_0 [] E_a121_0 h_a121_0 = true := by decide +kernel
set_option maxRecDepth 1000000 in
theorem ci_a121_0 : e2_idl 3 (al_a121_0.set 5 (9, 0, 0)) = true := by decide +kernel
set_option maxRecDepth 1000000 in
theorem cj_a121_0 : e2_idh 3 8 h_a121_0 = true := by decide +kernel
theorem cs_a121 (hen : en_ok) (l : Launch) (hh : e2_hand_a l) : e2_smOk l 94 s_a121 := by
  refine e2_conG (H := 91) (n := 2) (C := evd_59) (S := S_a121) (I := I_a121) (fuel := 4000) hen ei_59 (e2_fa ((cs_a38 hen l hh).mono (by decide)) (e2_fa (cs_a119 hen l hh) (e2_fa ((cs_a120 hen l hh).mono (by decide)) e2_fz))) (e2_fa ein_19 (e2_fa ein_20 (e2_fa ein_60 e2_fz))) (by decide) co_a121 fun M d _ hC hcall p e R s m args below meth c Q D cA A ads r0 ha hl0 => ?_
  have L_0 : e2_gdM M p l e R s m args below meth c Q D cA A ads r0 66 al_a121_0 [] E_a121_0 h_a121_0 := by
    refine e2_indL (u := 3) (j := 5) (lo := 2147483648) (hi := 2147483649) (b := 3) (dd := 0) hl0 (by decide) rfl rfl (Or.inr ⟨rfl, rfl⟩) rfl ci_a121_0 cj_a121_0 ?_
    intro r_0 k_0 hk_0 hp_0 hs_0 hn_0
    have hl_0 : r_0.length ≤ 4 := hs_0.len rfl
    have ha_0 := ha.ext hp_0
    exact e2_fromM hen ha_0 hcall (e2_cutA_ok (e2_fa (fun al st E h hc => hn_0 al st E h hc) e2_fz)) (hC []) (X := e2x_59) ex2_59 66 ck_a121_0
  have EN_0 := e2_entL (u := 3) (j := 5) (lo := 2147483648) (hi := 2147483649) hl0 rfl rfl rfl ci_a121_0 cj_a121_0 L_0
  exact e2_from hen ha hcall (e2_cutA_ok (e2_fa (fun al st E h hc => EN_0 al st E h hc) e2_fz)) (hC []) (X := e2x_59) ex2_59 0 ck_a121_e
/-! a122 X3_parseLevel -/
def as_a122 : List ev_V := [(2, 33, 0), (2, 30, 0), (0, 1, 0), (0, 6, 0)]
def E_a122 : e2_E := [(2147483648, 2147583648, 0, 0), (2147483652, 2147483668, 1, 0), (2147483648, 2147485248, 2, 0)]
noncomputable def f_a122 : ev_H := (an651 : e2_Q8)
noncomputable def q_a122_0 : ev_H := (an651 : e2_Q8)
noncomputable def rs_a122 : e2_Rs := [((11, 2147483648, 2147483649), q_a122_0)]
noncomputable def s_a122 : e2_Sm := (59, as_a122, E_a122, f_a122, rs_a122)
noncomputable def S_a122 : List e2_Sm := [s_a38, s_a121]
noncomputable def I_a122 : List e2_In := [(19, 2, e2x_19), (20, 2, e2x_20), (60, 1, e2x_60)]
set_option maxRecDepth 1000000 in
theorem co_a122 : e2_okSB E_a122.length as_a122 f_a122 rs_a122 = true := by decide +kernel
def al_a122_0 : List ev_V := [(2, 33, 0), (2, 30, 0), (0, 1, 0), (0, 6, 0), (0, 30, 0), (1, 3, 4294967296), (9, 0, 0)]
def E_a122_0 : e2_E := [(2147483648, 2147583648, 0, 0), (2147483652, 2147483668, 1, 0), (2147483648, 2147485248, 2, 0), (2147483648, 2147483678, 3, 0)]
noncomputable def h_a122_0 : ev_H := (an651 : e2_Q8)
noncomputable def cl_a122_e : List (Nat × e2_S) := [(66, e2_cutL (al_a122_0.set 5 (11, 2147483648, 2147483678)) 3 (E_a122_0.take 3) h_a122_0)]
set_option maxRecDepth 1000000 in
theorem ck_a122_e : e2_run (e2_cal S_a122 I_a122 4000 2) (e2_fin rs_a122) e2x_59 (e2_bpL cl_a122_e) (e2_cutA cl_a122_e) 4000 (e2_seek e2x_59 0) (e2_al 7 as_a122) [] E_a122 f_a122 = true := by decide +kernel
noncomputable def cl_a122_0 : List (Nat × e2_S) := [(66, e2_cutL (al_a122_0.set 5 (13, 11, 2147483678)) 3 (E_a122_0.take 3) h_a122_0)]
set_option maxRecDepth 1000000 in
theorem ck_a122_0 : e2_runM (e2_cal S_a122 I_a122 4000 2) (e2_fin rs_a122) e2x_59 (e2_bpL cl_a122_0) (e2_cutA cl_a122_0) 4000 (e2_seek e2x_59 66) al_a122_0 [] E_a122_0 h_a122_0 = true := by decide +kernel
set_option maxRecDepth 1000000 in
theorem ci_a122_0 : e2_idl 3 (al_a122_0.set 5 (9, 0, 0)) = true := by decide +kernel
set_option maxRecDepth 1000000 in
theorem cj_a122_0 : e2_idh 3 8 h_a122_0 = true := by decide +kernel
theorem cs_a122 (hen : en_ok) (l : Launch) (hh : e2_hand_a l) : e2_smOk l 97 s_a122 := by
  refine e2_conG (H := 94) (n := 2) (C := evd_59) (S := S_a122) (I := I_a122) (fuel := 4000) hen ei_59 (e2_fa ((cs_a38 hen l hh).mono (by decide)) (e2_fa (cs_a121 hen l hh) e2_fz)) (e2_fa ein_19 (e2_fa ein_20 (e2_fa ein_60 e2_fz))) (by decide) co_a122 fun M d _ hC hcall p e R s m args below meth c Q D cA A ads r0 ha hl0 => ?_
  have L_0 : e2_gdM M p l e R s m args below meth c Q D cA A ads r0 66 al_a122_0 [] E_a122_0 h_a122_0 := by
    refine e2_indL (u := 3) (j := 5) (lo := 2147483648) (hi := 2147483678) (b := 3) (dd := 0) hl0 (by decide) rfl rfl (Or.inr ⟨rfl, rfl⟩) rfl ci_a122_0 cj_a122_0 ?_
    intro r_0 k_0 hk_0 hp_0 hs_0 hn_0
    have hl_0 : r_0.length ≤ 4 := hs_0.len rfl
    have ha_0 := ha.ext hp_0
    exact e2_fromM hen ha_0 hcall (e2_cutA_ok (e2_fa (fun al st E h hc => hn_0 al st E h hc) e2_fz)) (hC []) (X := e2x_59) ex2_59 66 ck_a122_0
  have EN_0 := e2_entL (u := 3) (j := 5) (lo := 2147483648) (hi := 2147483678) hl0 rfl rfl rfl ci_a122_0 cj_a122_0 L_0
  exact e2_from hen ha hcall (e2_cutA_ok (e2_fa (fun al st E h hc => EN_0 al st E h hc) e2_fz)) (hC []) (X := e2x_59) ex2_59 0 ck_a122_e
/-! a123 X3_parseLevel -/
def as_a123 : List ev_V := [(2, 33, 0), (2, 30, 0), (0, 0, 0), (0, 6, 0)]
def E_a123 : e2_E := [(2147483648, 2147583648, 0, 0), (2147483652, 2147483668, 1, 0), (2147483648, 2147485248, 2, 0)]
noncomputable def f_a123 : ev_H := (an651 : e2_Q8)
noncomputable def q_a123_0 : ev_H := (an651 : e2_Q8)
noncomputable def rs_a123 : e2_Rs := [((11, 2147483648, 2147483649), q_a123_0)]
noncomputable def s_a123 : e2_Sm := (59, as_a123, E_a123, f_a123, rs_a123)
noncomputable def S_a123 : List e2_Sm := [s_a38, s_a122]
noncomputable def I_a123 : List e2_In := [(19, 2, e2x_19), (20, 2, e2x_20), (60, 1, e2x_60)]
set_option maxRecDepth 1000000 in
theorem co_a123 : e2_okSB E_a123.length as_a123 f_a123 rs_a123 = true := by decide +kernel
def al_a123_0 : List ev_V := [(2, 33, 0), (2, 30, 0), (0, 0, 0), (0, 6, 0), (0, 30, 0), (1, 3, 4294967296), (9, 0, 0)]
def E_a123_0 : e2_E := [(2147483648, 2147583648, 0, 0), (2147483652, 2147483668, 1, 0), (2147483648, 2147485248, 2, 0), (2147483648, 2147483678, 3, 0)]
noncomputable def h_a123_0 : ev_H := (an651 : e2_Q8)
noncomputable def cl_a123_e : List (Nat × e2_S) := [(66, e2_cutL (al_a123_0.set 5 (11, 2147483648, 2147483678)) 3 (E_a123_0.take 3) h_a123_0)]
set_option maxRecDepth 1000000 in
theorem ck_a123_e : e2_run (e2_cal S_a123 I_a123 4000 2) (e2_fin rs_a123) e2x_59 (e2_bpL cl_a123_e) (e2_cutA cl_a123_e) 4000 (e2_seek e2x_59 0) (e2_al 7 as_a123) [] E_a123 f_a123 = true := by decide +kernel
noncomputable def cl_a123_0 : List (Nat × e2_S) := [(66, e2_cutL (al_a123_0.set 5 (13, 11, 2147483678)) 3 (E_a123_0.take 3) h_a123_0)]
set_option maxRecDepth 1000000 in
theorem ck_a123_0 : e2_runM (e2_cal S_a123 I_a123 4000 2) (e2_fin rs_a123) e2x_59 (e2_bpL cl_a123_0) (e2_cutA cl_a123_0) 4000 (e2_seek e2x_59 66) al_a123_0 [] E_a123_0 h_a123_0 = true := by decide +kernel
set_option maxRecDepth 1000000 in
theorem ci_a123_0 : e2_idl 3 (al_a123_0.set 5 (9, 0, 0)) = true := by decide +kernel
set_option maxRecDepth 1000000 in
theorem cj_a123_0 : e2_idh 3 8 h_a123_0 = true := by decide +kernel
theorem cs_a123 (hen : en_ok) (l : Launch) (hh : e2_hand_a l) : e2_smOk l 100 s_a123 := by
  refine e2_conG (H := 97) (n := 2) (C := evd_59) (S := S_a123) (I := I_a123) (fuel := 4000) hen ei_59 (e2_fa ((cs_a38 hen l hh).mono (by decide)) (e2_fa (cs_a122 hen l hh) e2_fz)) (e2_fa ein_19 (e2_fa ein_20 (e2_fa ein_60 e2_fz))) (by decide) co_a123 fun M d _ hC hcall p e R s m args below meth c Q D cA A ads r0 ha hl0 => ?_
  have L_0 : e2_gdM M p l e R s m args below meth c Q D cA A ads r0 66 al_a123_0 [] E_a123_0 h_a123_0 := by
    refine e2_indL (u := 3) (j := 5) (lo := 2147483648) (hi := 2147483678) (b := 3) (dd := 0) hl0 (by decide) rfl rfl (Or.inr ⟨rfl, rfl⟩) rfl ci_a123_0 cj_a123_0 ?_
    intro r_0 k_0 hk_0 hp_0 hs_0 hn_0
    have hl_0 : r_0.length ≤ 4 := hs_0.len rfl
    have ha_0 := ha.ext hp_0
    exact e2_fromM hen ha_0 hcall (e2_cutA_ok (e2_fa (fun al st E h hc => hn_0 al st E h hc) e2_fz)) (hC []) (X := e2x_59) ex2_59 66 ck_a123_0
  have EN_0 := e2_entL (u := 3) (j := 5) (lo := 2147483648) (hi := 2147483678) hl0 rfl rfl rfl ci_a123_0 cj_a123_0 L_0
  exact e2_from hen ha hcall (e2_cutA_ok (e2_fa (fun al st E h hc => EN_0 al st E h hc) e2_fz)) (hC []) (X := e2x_59) ex2_59 0 ck_a123_e
/-! a124 X3_parseUnit -/
def as_a124 : List ev_V := [(2, 33, 0), (2, 30, 0), (0, 5, 0)]
def E_a124 : e2_E := [(2147483648, 2147583648, 0, 0), (2147483652, 2147483668, 1, 0), (2147483648, 2147485248, 2, 0)]
noncomputable def f_a124 : ev_H := (an651 : e2_Q8)
noncomputable def q_a124_0 : ev_H := (an651 : e2_Q8)
noncomputable def rs_a124 : e2_Rs := [((11, 2147483648, 2147483649), q_a124_0)]
noncomputable def s_a124 : e2_Sm := (62, as_a124, E_a124, f_a124, rs_a124)
noncomputable def S_a124 : List e2_Sm := [s_a38, s_a39, s_a123]
noncomputable def I_a124 : List e2_In := [(18, 2, e2x_18), (19, 2, e2x_19), (20, 2, e2x_20), (43, 2, e2x_43), (44, 3, e2x_44)]
set_option maxRecDepth 1000000 in
theorem ck_a124 : e2_run (e2_cal S_a124 I_a124 4000 2) (e2_fin rs_a124) e2x_62 (fun _ => false) (fun _ _ _ _ _ => false) 4000 (e2_seek e2x_62 0) (e2_al 7 as_a124) [] E_a124 f_a124 = true := by decide +kernel
set_option maxRecDepth 1000000 in
theorem co_a124 : e2_okSB E_a124.length as_a124 f_a124 rs_a124 = true := by decide +kernel
theorem cs_a124 (hen : en_ok) (l : Launch) (hh : e2_hand_a l) : e2_smOk l 103 s_a124 := e2_con0 (H := 100) (n := 2) (C := evd_62) (S := S_a124) (I := I_a124) (fuel := 4000) [] hen ei_62 (e2_fa ((cs_a38 hen l hh).mono (by decide)) (e2_fa ((cs_a39 hen l hh).mono (by decide)) (e2_fa (cs_a123 hen l hh) e2_fz))) (e2_fa ein_18 (e2_fa ein_19 (e2_fa ein_20 (e2_fa ein_43 (e2_fa ein_44 e2_fz))))) (by decide) co_a124 ex2_62 ck_a124
/-! a125 X3_parseLevel -/
def as_a125 : List ev_V := [(2, 33, 0), (2, 30, 0), (0, 5, 0), (0, 5, 0)]
def E_a125 : e2_E := [(2147483648, 2147583648, 0, 0), (2147483652, 2147483668, 1, 0), (2147483648, 2147485248, 2, 0)]
noncomputable def f_a125 : ev_H := (an651 : e2_Q8)
noncomputable def q_a125_0 : ev_H := (an651 : e2_Q8)
noncomputable def rs_a125 : e2_Rs := [((11, 2147483648, 2147483649), q_a125_0)]
noncomputable def s_a125 : e2_Sm := (59, as_a125, E_a125, f_a125, rs_a125)
noncomputable def S_a125 : List e2_Sm := [s_a124]
noncomputable def I_a125 : List e2_In := []
set_option maxRecDepth 1000000 in
theorem ck_a125 : e2_run (e2_cal S_a125 I_a125 4000 0) (e2_fin rs_a125) e2x_59 (fun _ => false) (fun _ _ _ _ _ => false) 4000 (e2_seek e2x_59 0) (e2_al 7 as_a125) [] E_a125 f_a125 = true := by decide +kernel
set_option maxRecDepth 1000000 in
theorem co_a125 : e2_okSB E_a125.length as_a125 f_a125 rs_a125 = true := by decide +kernel
theorem cs_a125 (hen : en_ok) (l : Launch) (hh : e2_hand_a l) : e2_smOk l 104 s_a125 := e2_con0 (H := 103) (n := 0) (C := evd_59) (S := S_a125) (I := I_a125) (fuel := 4000) [] hen ei_59 (e2_fa (cs_a124 hen l hh) e2_fz) e2_fz (by decide) co_a125 ex2_59 ck_a125
/-! a126 X3_parseLevel -/
def as_a126 : List ev_V := [(2, 33, 0), (2, 30, 0), (0, 4, 0), (0, 5, 0)]
def E_a126 : e2_E := [(2147483648, 2147583648, 0, 0), (2147483652, 2147483668, 1, 0), (2147483648, 2147485248, 2, 0)]
noncomputable def f_a126 : ev_H := (an651 : e2_Q8)
noncomputable def q_a126_0 : ev_H := (an651 : e2_Q8)
noncomputable def rs_a126 : e2_Rs := [((11, 2147483648, 2147483649), q_a126_0)]
noncomputable def s_a126 : e2_Sm := (59, as_a126, E_a126, f_a126, rs_a126)
noncomputable def S_a126 : List e2_Sm := [s_a38, s_a125]
noncomputable def I_a126 : List e2_In := [(19, 2, e2x_19), (20, 2, e2x_20), (60, 1, e2x_60)]
set_option maxRecDepth 1000000 in
theorem co_a126 : e2_okSB E_a126.length as_a126 f_a126 rs_a126 = true := by decide +kernel
def al_a126_0 : List ev_V := [(2, 33, 0), (2, 30, 0), (0, 4, 0), (0, 5, 0), (0, 30, 0), (1, 3, 4294967296), (9, 0, 0)]
def E_a126_0 : e2_E := [(2147483648, 2147583648, 0, 0), (2147483652, 2147483668, 1, 0), (2147483648, 2147485248, 2, 0), (2147483648, 2147483678, 3, 0)]
noncomputable def h_a126_0 : ev_H := (an651 : e2_Q8)
noncomputable def cl_a126_e : List (Nat × e2_S) := [(66, e2_cutL (al_a126_0.set 5 (11, 2147483648, 2147483678)) 3 (E_a126_0.take 3) h_a126_0)]
set_option maxRecDepth 1000000 in
theorem ck_a126_e : e2_run (e2_cal S_a126 I_a126 4000 2) (e2_fin rs_a126) e2x_59 (e2_bpL cl_a126_e) (e2_cutA cl_a126_e) 4000 (e2_seek e2x_59 0) (e2_al 7 as_a126) [] E_a126 f_a126 = true := by decide +kernel
noncomputable def cl_a126_0 : List (Nat × e2_S) := [(66, e2_cutL (al_a126_0.set 5 (13, 11, 2147483678)) 3 (E_a126_0.take 3) h_a126_0)]
set_option maxRecDepth 1000000 in
theorem ck_a126_0 : e2_runM (e2_cal S_a126 I_a126 4000 2) (e2_fin rs_a126) e2x_59 (e2_bpL cl_a126_0) (e2_cutA cl_a126_0) 4000 (e2_seek e2x_59 66) al_a126_0 [] E_a126_0 h_a126_0 = true := by decide +kernel
set_option maxRecDepth 1000000 in
theorem ci_a126_0 : e2_idl 3 (al_a126_0.set 5 (9, 0, 0)) = true := by decide +kernel
set_option maxRecDepth 1000000 in
theorem cj_a126_0 : e2_idh 3 8 h_a126_0 = true := by decide +kernel
theorem cs_a126 (hen : en_ok) (l : Launch) (hh : e2_hand_a l) : e2_smOk l 107 s_a126 := by
  refine e2_conG (H := 104) (n := 2) (C := evd_59) (S := S_a126) (I := I_a126) (fuel := 4000) hen ei_59 (e2_fa ((cs_a38 hen l hh).mono (by decide)) (e2_fa (cs_a125 hen l hh) e2_fz)) (e2_fa ein_19 (e2_fa ein_20 (e2_fa ein_60 e2_fz))) (by decide) co_a126 fun M d _ hC hcall p e R s m args below meth c Q D cA A ads r0 ha hl0 => ?_
  have L_0 : e2_gdM M p l e R s m args below meth c Q D cA A ads r0 66 al_a126_0 [] E_a126_0 h_a126_0 := by
    refine e2_indL (u := 3) (j := 5) (lo := 2147483648) (hi := 2147483678) (b := 3) (dd := 0) hl0 (by decide) rfl rfl (Or.inr ⟨rfl, rfl⟩) rfl ci_a126_0 cj_a126_0 ?_
    intro r_0 k_0 hk_0 hp_0 hs_0 hn_0
    have hl_0 : r_0.length ≤ 4 := hs_0.len rfl
    have ha_0 := ha.ext hp_0
    exact e2_fromM hen ha_0 hcall (e2_cutA_ok (e2_fa (fun al st E h hc => hn_0 al st E h hc) e2_fz)) (hC []) (X := e2x_59) ex2_59 66 ck_a126_0
  have EN_0 := e2_entL (u := 3) (j := 5) (lo := 2147483648) (hi := 2147483678) hl0 rfl rfl rfl ci_a126_0 cj_a126_0 L_0
  exact e2_from hen ha hcall (e2_cutA_ok (e2_fa (fun al st E h hc => EN_0 al st E h hc) e2_fz)) (hC []) (X := e2x_59) ex2_59 0 ck_a126_e
/-! a127 X3_parseLevel -/
def as_a127 : List ev_V := [(2, 33, 0), (2, 30, 0), (0, 3, 0), (0, 5, 0)]
def E_a127 : e2_E := [(2147483648, 2147583648, 0, 0), (2147483652, 2147483668, 1, 0), (2147483648, 2147485248, 2, 0)]
noncomputable def f_a127 : ev_H := (an651 : e2_Q8)
noncomputable def q_a127_0 : ev_H := (an651 : e2_Q8)
noncomputable def rs_a127 : e2_Rs := [((11, 2147483648, 2147483649), q_a127_0)]
noncomputable def s_a127 : e2_Sm := (59, as_a127, E_a127, f_a127, rs_a127)
noncomputable def S_a127 : List e2_Sm := [s_a38, s_a126]
noncomputable def I_a127 : List e2_In := [(19, 2, e2x_19), (20, 2, e2x_20), (60, 1, e2x_60)]
set_option maxRecDepth 1000000 in
theorem co_a127 : e2_okSB E_a127.length as_a127 f_a127 rs_a127 = true := by decide +kernel
def al_a127_0 : List ev_V := [(2, 33, 0), (2, 30, 0), (0, 3, 0), (0, 5, 0), (0, 30, 0), (1, 3, 4294967296), (9, 0, 0)]
def E_a127_0 : e2_E := [(2147483648, 2147583648, 0, 0), (2147483652, 2147483668, 1, 0), (2147483648, 2147485248, 2, 0), (2147483648, 2147483678, 3, 0)]
noncomputable def h_a127_0 : ev_H := (an651 : e2_Q8)
noncomputable def cl_a127_e : List (Nat × e2_S) := [(66, e2_cutL (al_a127_0.set 5 (11, 2147483648, 2147483678)) 3 (E_a127_0.take 3) h_a127_0)]
set_option maxRecDepth 1000000 in
theorem ck_a127_e : e2_run (e2_cal S_a127 I_a127 4000 2) (e2_fin rs_a127) e2x_59 (e2_bpL cl_a127_e) (e2_cutA cl_a127_e) 4000 (e2_seek e2x_59 0) (e2_al 7 as_a127) [] E_a127 f_a127 = true := by decide +kernel
noncomputable def cl_a127_0 : List (Nat × e2_S) := [(66, e2_cutL (al_a127_0.set 5 (13, 11, 2147483678)) 3 (E_a127_0.take 3) h_a127_0)]
set_option maxRecDepth 1000000 in
theorem ck_a127_0 : e2_runM (e2_cal S_a127 I_a127 4000 2) (e2_fin rs_a127) e2x_59 (e2_bpL cl_a127_0) (e2_cutA cl_a127_0) 4000 (e2_seek e2x_59 66) al_a127_0 [] E_a127_0 h_a127_0 = true := by decide +kernel
set_option maxRecDepth 1000000 in
theorem ci_a127_0 : e2_idl 3 (al_a127_0.set 5 (9, 0, 0)) = true := by decide +kernel
set_option maxRecDepth 1000000 in
theorem cj_a127_0 : e2_idh 3 8 h_a127_0 = true := by decide +kernel
theorem cs_a127 (hen : en_ok) (l : Launch) (hh : e2_hand_a l) : e2_smOk l 110 s_a127 := by
  refine e2_conG (H := 107) (n := 2) (C := evd_59) (S := S_a127) (I := I_a127) (fuel := 4000) hen ei_59 (e2_fa ((cs_a38 hen l hh).mono (by decide)) (e2_fa (cs_a126 hen l hh) e2_fz)) (e2_fa ein_19 (e2_fa ein_20 (e2_fa ein_60 e2_fz))) (by decide) co_a127 fun M d _ hC hcall p e R s m args below meth c Q D cA A ads r0 ha hl0 => ?_
  have L_0 : e2_gdM M p l e R s m args below meth c Q D cA A ads r0 66 al_a127_0 [] E_a127_0 h_a127_0 := by
    refine e2_indL (u := 3) (j := 5) (lo := 2147483648) (hi := 2147483678) (b := 3) (dd := 0) hl0 (by decide) rfl rfl (Or.inr ⟨rfl, rfl⟩) rfl ci_a127_0 cj_a127_0 ?_
    intro r_0 k_0 hk_0 hp_0 hs_0 hn_0
    have hl_0 : r_0.length ≤ 4 := hs_0.len rfl
    have ha_0 := ha.ext hp_0
    exact e2_fromM hen ha_0 hcall (e2_cutA_ok (e2_fa (fun al st E h hc => hn_0 al st E h hc) e2_fz)) (hC []) (X := e2x_59) ex2_59 66 ck_a127_0
  have EN_0 := e2_entL (u := 3) (j := 5) (lo := 2147483648) (hi := 2147483678) hl0 rfl rfl rfl ci_a127_0 cj_a127_0 L_0
  exact e2_from hen ha hcall (e2_cutA_ok (e2_fa (fun al st E h hc => EN_0 al st E h hc) e2_fz)) (hC []) (X := e2x_59) ex2_59 0 ck_a127_e
/-! a128 X3_parseNot -/
def as_a128 : List ev_V := [(2, 33, 0), (2, 30, 0), (0, 5, 0)]
def E_a128 : e2_E := [(2147483648, 2147583648, 0, 0), (2147483652, 2147483668, 1, 0), (2147483648, 2147485248, 2, 0)]
noncomputable def f_a128 : ev_H := (an651 : e2_Q8)
noncomputable def q_a128_0 : ev_H := (an651 : e2_Q8)
noncomputable def rs_a128 : e2_Rs := [((11, 2147483648, 2147483649), q_a128_0)]
noncomputable def s_a128 : e2_Sm := (61, as_a128, E_a128, f_a128, rs_a128)
noncomputable def S_a128 : List e2_Sm := [s_a38, s_a121]
noncomputable def I_a128 : List e2_In := [(19, 2, e2x_19), (20, 2, e2x_20)]
set_option maxRecDepth 1000000 in
theorem ck_a128 : e2_run (e2_cal S_a128 I_a128 4000 2) (e2_fin rs_a128) e2x_61 (fun _ => false) (fun _ _ _ _ _ => false) 4000 (e2_seek e2x_61 0) (e2_al 3 as_a128) [] E_a128 f_a128 = true := by decide +kernel
set_option maxRecDepth 1000000 in
theorem co_a128 : e2_okSB E_a128.length as_a128 f_a128 rs_a128 = true := by decide +kernel
theorem cs_a128 (hen : en_ok) (l : Launch) (hh : e2_hand_a l) : e2_smOk l 97 s_a128 := e2_con0 (H := 94) (n := 2) (C := evd_61) (S := S_a128) (I := I_a128) (fuel := 4000) [] hen ei_61 (e2_fa ((cs_a38 hen l hh).mono (by decide)) (e2_fa (cs_a121 hen l hh) e2_fz)) (e2_fa ein_19 (e2_fa ein_20 e2_fz)) (by decide) co_a128 ex2_61 ck_a128
/-! a129 X3_parseLevel -/
def as_a129 : List ev_V := [(2, 33, 0), (2, 30, 0), (0, 2, 0), (0, 5, 0)]
def E_a129 : e2_E := [(2147483648, 2147583648, 0, 0), (2147483652, 2147483668, 1, 0), (2147483648, 2147485248, 2, 0)]
noncomputable def f_a129 : ev_H := (an651 : e2_Q8)
noncomputable def q_a129_0 : ev_H := (an651 : e2_Q8)
noncomputable def rs_a129 : e2_Rs := [((11, 2147483648, 2147483649), q_a129_0)]
noncomputable def s_a129 : e2_Sm := (59, as_a129, E_a129, f_a129, rs_a129)
noncomputable def S_a129 : List e2_Sm := [s_a38, s_a127, s_a128]
noncomputable def I_a129 : List e2_In := [(19, 2, e2x_19), (20, 2, e2x_20), (60, 1, e2x_60)]
set_option maxRecDepth 1000000 in
theorem co_a129 : e2_okSB E_a129.length as_a129 f_a129 rs_a129 = true := by decide +kernel
def al_a129_0 : List ev_V := [(2, 33, 0), (2, 30, 0), (0, 2, 0), (0, 5, 0), (0, 1, 0), (1, 3, 4294967296), (9, 0, 0)]
def E_a129_0 : e2_E := [(2147483648, 2147583648, 0, 0), (2147483652, 2147483668, 1, 0), (2147483648, 2147485248, 2, 0), (2147483648, 2147483649, 3, 0)]
noncomputable def h_a129_0 : ev_H := (an651 : e2_Q8)
noncomputable def cl_a129_e : List (Nat × e2_S) := [(66, e2_cutL (al_a129_0.set 5 (11, 2147483648, 2147483649)) 3 (E_a129_0.take 3) h_a129_0)]
set_option maxRecDepth 1000000 in
theorem ck_a129_e : e2_run (e2_cal S_a129 I_a129 4000 2) (e2_fin rs_a129) e2x_59 (e2_bpL cl_a129_e) (e2_cutA cl_a129_e) 4000 (e2_seek e2x_59 0) (e2_al 7 as_a129) [] E_a129 f_a129 = true := by decide +kernel
noncomputable def cl_a129_0 : List (Nat × e2_S) := [(66, e2_cutL (al_a129_0.set 5 (13, 11, 2147483649)) 3 (E_a129_0.take 3) h_a129_0)]
set_option maxRecDepth 1000000 in
theorem ck_a129_0 : e2_runM (e2_cal S_a129 I_a129 4000 2) (e2_fin rs_a129) e2x_59 (e2_bpL cl_a129_0) (e2_cutA cl_a129_0) 4000 (e2_seek e2x_59 66) al_a129_0 [] E_a129_0 h_a129_0 = true := by decide +kernel
set_option maxRecDepth 1000000 in
theorem ci_a129_0 : e2_idl 3 (al_a129_0.set 5 (9, 0, 0)) = true := by decide +kernel
set_option maxRecDepth 1000000 in
theorem cj_a129_0 : e2_idh 3 8 h_a129_0 = true := by decide +kernel
theorem cs_a129 (hen : en_ok) (l : Launch) (hh : e2_hand_a l) : e2_smOk l 113 s_a129 := by
  refine e2_conG (H := 110) (n := 2) (C := evd_59) (S := S_a129) (I := I_a129) (fuel := 4000) hen ei_59 (e2_fa ((cs_a38 hen l hh).mono (by decide)) (e2_fa (cs_a127 hen l hh) (e2_fa ((cs_a128 hen l hh).mono (by decide)) e2_fz))) (e2_fa ein_19 (e2_fa ein_20 (e2_fa ein_60 e2_fz))) (by decide) co_a129 fun M d _ hC hcall p e R s m args below meth c Q D cA A ads r0 ha hl0 => ?_
  have L_0 : e2_gdM M p l e R s m args below meth c Q D cA A ads r0 66 al_a129_0 [] E_a129_0 h_a129_0 := by
    refine e2_indL (u := 3) (j := 5) (lo := 2147483648) (hi := 2147483649) (b := 3) (dd := 0) hl0 (by decide) rfl rfl (Or.inr ⟨rfl, rfl⟩) rfl ci_a129_0 cj_a129_0 ?_
    intro r_0 k_0 hk_0 hp_0 hs_0 hn_0
    have hl_0 : r_0.length ≤ 4 := hs_0.len rfl
    have ha_0 := ha.ext hp_0
    exact e2_fromM hen ha_0 hcall (e2_cutA_ok (e2_fa (fun al st E h hc => hn_0 al st E h hc) e2_fz)) (hC []) (X := e2x_59) ex2_59 66 ck_a129_0
  have EN_0 := e2_entL (u := 3) (j := 5) (lo := 2147483648) (hi := 2147483649) hl0 rfl rfl rfl ci_a129_0 cj_a129_0 L_0
  exact e2_from hen ha hcall (e2_cutA_ok (e2_fa (fun al st E h hc => EN_0 al st E h hc) e2_fz)) (hC []) (X := e2x_59) ex2_59 0 ck_a129_e
/-! a130 X3_parseLevel -/
def as_a130 : List ev_V := [(2, 33, 0), (2, 30, 0), (0, 1, 0), (0, 5, 0)]
def E_a130 : e2_E := [(2147483648, 2147583648, 0, 0), (2147483652, 2147483668, 1, 0), (2147483648, 2147485248, 2, 0)]
noncomputable def f_a130 : ev_H := (an651 : e2_Q8)
noncomputable def q_a130_0 : ev_H := (an651 : e2_Q8)
noncomputable def rs_a130 : e2_Rs := [((11, 2147483648, 2147483649), q_a130_0)]
noncomputable def s_a130 : e2_Sm := (59, as_a130, E_a130, f_a130, rs_a130)
noncomputable def S_a130 : List e2_Sm := [s_a38, s_a129]
noncomputable def I_a130 : List e2_In := [(19, 2, e2x_19), (20, 2, e2x_20), (60, 1, e2x_60)]
set_option maxRecDepth 1000000 in
theorem co_a130 : e2_okSB E_a130.length as_a130 f_a130 rs_a130 = true := by decide +kernel
def al_a130_0 : List ev_V := [(2, 33, 0), (2, 30, 0), (0, 1, 0), (0, 5, 0), (0, 30, 0), (1, 3, 4294967296), (9, 0, 0)]
def E_a130_0 : e2_E := [(2147483648, 2147583648, 0, 0), (2147483652, 2147483668, 1, 0), (2147483648, 2147485248, 2, 0), (2147483648, 2147483678, 3, 0)]
noncomputable def h_a130_0 : ev_H := (an651 : e2_Q8)
noncomputable def cl_a130_e : List (Nat × e2_S) := [(66, e2_cutL (al_a130_0.set 5 (11, 2147483648, 2147483678)) 3 (E_a130_0.take 3) h_a130_0)]
set_option maxRecDepth 1000000 in
theorem ck_a130_e : e2_run (e2_cal S_a130 I_a130 4000 2) (e2_fin rs_a130) e2x_59 (e2_bpL cl_a130_e) (e2_cutA cl_a130_e) 4000 (e2_seek e2x_59 0) (e2_al 7 as_a130) [] E_a130 f_a130 = true := by decide +kernel
noncomputable def cl_a130_0 : List (Nat × e2_S) := [(66, e2_cutL (al_a130_0.set 5 (13, 11, 2147483678)) 3 (E_a130_0.take 3) h_a130_0)]
set_option maxRecDepth 1000000 in
theorem ck_a130_0 : e2_runM (e2_cal S_a130 I_a130 4000 2) (e2_fin rs_a130) e2x_59 (e2_bpL cl_a130_0) (e2_cutA cl_a130_0) 4000 (e2_seek e2x_59 66) al_a130_0 [] E_a130_0 h_a130_0 = true := by decide +kernel
set_option maxRecDepth 1000000 in
theorem ci_a130_0 : e2_idl 3 (al_a130_0.set 5 (9, 0, 0)) = true := by decide +kernel
set_option maxRecDepth 1000000 in
theorem cj_a130_0 : e2_idh 3 8 h_a130_0 = true := by decide +kernel
theorem cs_a130 (hen : en_ok) (l : Launch) (hh : e2_hand_a l) : e2_smOk l 116 s_a130 := by
  refine e2_conG (H := 113) (n := 2) (C := evd_59) (S := S_a130) (I := I_a130) (fuel := 4000) hen ei_59 (e2_fa ((cs_a38 hen l hh).mono (by decide)) (e2_fa (cs_a129 hen l hh) e2_fz)) (e2_fa ein_19 (e2_fa ein_20 (e2_fa ein_60 e2_fz))) (by decide) co_a130 fun M d _ hC hcall p e R s m args below meth c Q D cA A ads r0 ha hl0 => ?_
  have L_0 : e2_gdM M p l e R s m args below meth c Q D cA A ads r0 66 al_a130_0 [] E_a130_0 h_a130_0 := by
    refine e2_indL (u := 3) (j := 5) (lo := 2147483648) (hi := 2147483678) (b := 3) (dd := 0) hl0 (by decide) rfl rfl (Or.inr ⟨rfl, rfl⟩) rfl ci_a130_0 cj_a130_0 ?_
    intro r_0 k_0 hk_0 hp_0 hs_0 hn_0
    have hl_0 : r_0.length ≤ 4 := hs_0.len rfl
    have ha_0 := ha.ext hp_0
    exact e2_fromM hen ha_0 hcall (e2_cutA_ok (e2_fa (fun al st E h hc => hn_0 al st E h hc) e2_fz)) (hC []) (X := e2x_59) ex2_59 66 ck_a130_0
  have EN_0 := e2_entL (u := 3) (j := 5) (lo := 2147483648) (hi := 2147483678) hl0 rfl rfl rfl ci_a130_0 cj_a130_0 L_0
  exact e2_from hen ha hcall (e2_cutA_ok (e2_fa (fun al st E h hc => EN_0 al st E h hc) e2_fz)) (hC []) (X := e2x_59) ex2_59 0 ck_a130_e
/-! a131 X3_parseLevel -/
def as_a131 : List ev_V := [(2, 33, 0), (2, 30, 0), (0, 0, 0), (0, 5, 0)]
def E_a131 : e2_E := [(2147483648, 2147583648, 0, 0), (2147483652, 2147483668, 1, 0), (2147483648, 2147485248, 2, 0)]
noncomputable def f_a131 : ev_H := (an651 : e2_Q8)
noncomputable def q_a131_0 : ev_H := (an651 : e2_Q8)
noncomputable def rs_a131 : e2_Rs := [((11, 2147483648, 2147483649), q_a131_0)]
noncomputable def s_a131 : e2_Sm := (59, as_a131, E_a131, f_a131, rs_a131)
noncomputable def S_a131 : List e2_Sm := [s_a38, s_a130]
noncomputable def I_a131 : List e2_In := [(19, 2, e2x_19), (20, 2, e2x_20), (60, 1, e2x_60)]
set_option maxRecDepth 1000000 in
theorem co_a131 : e2_okSB E_a131.length as_a131 f_a131 rs_a131 = true := by decide +kernel
def al_a131_0 : List ev_V := [(2, 33, 0), (2, 30, 0), (0, 0, 0), (0, 5, 0), (0, 30, 0), (1, 3, 4294967296), (9, 0, 0)]
def E_a131_0 : e2_E := [(2147483648, 2147583648, 0, 0), (2147483652, 2147483668, 1, 0), (2147483648, 2147485248, 2, 0), (2147483648, 2147483678, 3, 0)]
noncomputable def h_a131_0 : ev_H := (an651 : e2_Q8)
noncomputable def cl_a131_e : List (Nat × e2_S) := [(66, e2_cutL (al_a131_0.set 5 (11, 2147483648, 2147483678)) 3 (E_a131_0.take 3) h_a131_0)]
set_option maxRecDepth 1000000 in
theorem ck_a131_e : e2_run (e2_cal S_a131 I_a131 4000 2) (e2_fin rs_a131) e2x_59 (e2_bpL cl_a131_e) (e2_cutA cl_a131_e) 4000 (e2_seek e2x_59 0) (e2_al 7 as_a131) [] E_a131 f_a131 = true := by decide +kernel
noncomputable def cl_a131_0 : List (Nat × e2_S) := [(66, e2_cutL (al_a131_0.set 5 (13, 11, 2147483678)) 3 (E_a131_0.take 3) h_a131_0)]
set_option maxRecDepth 1000000 in
theorem ck_a131_0 : e2_runM (e2_cal S_a131 I_a131 4000 2) (e2_fin rs_a131) e2x_59 (e2_bpL cl_a131_0) (e2_cutA cl_a131_0) 4000 (e2_seek e2x_59 66) al_a131_0 [] E_a131_0 h_a131_0 = true := by decide +kernel
set_option maxRecDepth 1000000 in
theorem ci_a131_0 : e2_idl 3 (al_a131_0.set 5 (9, 0, 0)) = true := by decide +kernel
set_option maxRecDepth 1000000 in
theorem cj_a131_0 : e2_idh 3 8 h_a131_0 = true := by decide +kernel
theorem cs_a131 (hen : en_ok) (l : Launch) (hh : e2_hand_a l) : e2_smOk l 119 s_a131 := by
  refine e2_conG (H := 116) (n := 2) (C := evd_59) (S := S_a131) (I := I_a131) (fuel := 4000) hen ei_59 (e2_fa ((cs_a38 hen l hh).mono (by decide)) (e2_fa (cs_a130 hen l hh) e2_fz)) (e2_fa ein_19 (e2_fa ein_20 (e2_fa ein_60 e2_fz))) (by decide) co_a131 fun M d _ hC hcall p e R s m args below meth c Q D cA A ads r0 ha hl0 => ?_
  have L_0 : e2_gdM M p l e R s m args below meth c Q D cA A ads r0 66 al_a131_0 [] E_a131_0 h_a131_0 := by
    refine e2_indL (u := 3) (j := 5) (lo := 2147483648) (hi := 2147483678) (b := 3) (dd := 0) hl0 (by decide) rfl rfl (Or.inr ⟨rfl, rfl⟩) rfl ci_a131_0 cj_a131_0 ?_
    intro r_0 k_0 hk_0 hp_0 hs_0 hn_0
    have hl_0 : r_0.length ≤ 4 := hs_0.len rfl
    have ha_0 := ha.ext hp_0
    exact e2_fromM hen ha_0 hcall (e2_cutA_ok (e2_fa (fun al st E h hc => hn_0 al st E h hc) e2_fz)) (hC []) (X := e2x_59) ex2_59 66 ck_a131_0
  have EN_0 := e2_entL (u := 3) (j := 5) (lo := 2147483648) (hi := 2147483678) hl0 rfl rfl rfl ci_a131_0 cj_a131_0 L_0
  exact e2_from hen ha hcall (e2_cutA_ok (e2_fa (fun al st E h hc => EN_0 al st E h hc) e2_fz)) (hC []) (X := e2x_59) ex2_59 0 ck_a131_e
/-! a132 X3_parseUnit -/
def as_a132 : List ev_V := [(2, 33, 0), (2, 30, 0), (0, 4, 0)]
def E_a132 : e2_E := [(2147483648, 2147583648, 0, 0), (2147483652, 2147483668, 1, 0), (2147483648, 2147485248, 2, 0)]
noncomputable def f_a132 : ev_H := (an651 : e2_Q8)
noncomputable def q_a132_0 : ev_H := (an651 : e2_Q8)
noncomputable def rs_a132 : e2_Rs := [((11, 2147483648, 2147483649), q_a132_0)]
noncomputable def s_a132 : e2_Sm := (62, as_a132, E_a132, f_a132, rs_a132)
noncomputable def S_a132 : List e2_Sm := [s_a38, s_a39, s_a131]
noncomputable def I_a132 : List e2_In := [(18, 2, e2x_18), (19, 2, e2x_19), (20, 2, e2x_20), (43, 2, e2x_43), (44, 3, e2x_44)]
set_option maxRecDepth 1000000 in
theorem ck_a132 : e2_run (e2_cal S_a132 I_a132 4000 2) (e2_fin rs_a132) e2x_62 (fun _ => false) (fun _ _ _ _ _ => false) 4000 (e2_seek e2x_62 0) (e2_al 7 as_a132) [] E_a132 f_a132 = true := by decide +kernel
set_option maxRecDepth 1000000 in
theorem co_a132 : e2_okSB E_a132.length as_a132 f_a132 rs_a132 = true := by decide +kernel
theorem cs_a132 (hen : en_ok) (l : Launch) (hh : e2_hand_a l) : e2_smOk l 122 s_a132 := e2_con0 (H := 119) (n := 2) (C := evd_62) (S := S_a132) (I := I_a132) (fuel := 4000) [] hen ei_62 (e2_fa ((cs_a38 hen l hh).mono (by decide)) (e2_fa ((cs_a39 hen l hh).mono (by decide)) (e2_fa (cs_a131 hen l hh) e2_fz))) (e2_fa ein_18 (e2_fa ein_19 (e2_fa ein_20 (e2_fa ein_43 (e2_fa ein_44 e2_fz))))) (by decide) co_a132 ex2_62 ck_a132
/-! a133 X3_parseLevel -/
def as_a133 : List ev_V := [(2, 33, 0), (2, 30, 0), (0, 5, 0), (0, 4, 0)]
def E_a133 : e2_E := [(2147483648, 2147583648, 0, 0), (2147483652, 2147483668, 1, 0), (2147483648, 2147485248, 2, 0)]
noncomputable def f_a133 : ev_H := (an651 : e2_Q8)
noncomputable def q_a133_0 : ev_H := (an651 : e2_Q8)
noncomputable def rs_a133 : e2_Rs := [((11, 2147483648, 2147483649), q_a133_0)]
noncomputable def s_a133 : e2_Sm := (59, as_a133, E_a133, f_a133, rs_a133)
noncomputable def S_a133 : List e2_Sm := [s_a132]
noncomputable def I_a133 : List e2_In := []
set_option maxRecDepth 1000000 in
theorem ck_a133 : e2_run (e2_cal S_a133 I_a133 4000 0) (e2_fin rs_a133) e2x_59 (fun _ => false) (fun _ _ _ _ _ => false) 4000 (e2_seek e2x_59 0) (e2_al 7 as_a133) [] E_a133 f_a133 = true := by decide +kernel
set_option maxRecDepth 1000000 in
theorem co_a133 : e2_okSB E_a133.length as_a133 f_a133 rs_a133 = true := by decide +kernel
theorem cs_a133 (hen : en_ok) (l : Launch) (hh : e2_hand_a l) : e2_smOk l 123 s_a133 := e2_con0 (H := 122) (n := 0) (C := evd_59) (S := S_a133) (I := I_a133) (fuel := 4000) [] hen ei_59 (e2_fa (cs_a132 hen l hh) e2_fz) e2_fz (by decide) co_a133 ex2_59 ck_a133
/-! a134 X3_parseLevel -/
def as_a134 : List ev_V := [(2, 33, 0), (2, 30, 0), (0, 4, 0), (0, 4, 0)]
def E_a134 : e2_E := [(2147483648, 2147583648, 0, 0), (2147483652, 2147483668, 1, 0), (2147483648, 2147485248, 2, 0)]
noncomputable def f_a134 : ev_H := (an651 : e2_Q8)
noncomputable def q_a134_0 : ev_H := (an651 : e2_Q8)
noncomputable def rs_a134 : e2_Rs := [((11, 2147483648, 2147483649), q_a134_0)]
noncomputable def s_a134 : e2_Sm := (59, as_a134, E_a134, f_a134, rs_a134)
noncomputable def S_a134 : List e2_Sm := [s_a38, s_a133]
noncomputable def I_a134 : List e2_In := [(19, 2, e2x_19), (20, 2, e2x_20), (60, 1, e2x_60)]
set_option maxRecDepth 1000000 in
theorem co_a134 : e2_okSB E_a134.length as_a134 f_a134 rs_a134 = true := by decide +kernel
def al_a134_0 : List ev_V := [(2, 33, 0), (2, 30, 0), (0, 4, 0), (0, 4, 0), (0, 30, 0), (1, 3, 4294967296), (9, 0, 0)]
def E_a134_0 : e2_E := [(2147483648, 2147583648, 0, 0), (2147483652, 2147483668, 1, 0), (2147483648, 2147485248, 2, 0), (2147483648, 2147483678, 3, 0)]
noncomputable def h_a134_0 : ev_H := (an651 : e2_Q8)
noncomputable def cl_a134_e : List (Nat × e2_S) := [(66, e2_cutL (al_a134_0.set 5 (11, 2147483648, 2147483678)) 3 (E_a134_0.take 3) h_a134_0)]
set_option maxRecDepth 1000000 in
theorem ck_a134_e : e2_run (e2_cal S_a134 I_a134 4000 2) (e2_fin rs_a134) e2x_59 (e2_bpL cl_a134_e) (e2_cutA cl_a134_e) 4000 (e2_seek e2x_59 0) (e2_al 7 as_a134) [] E_a134 f_a134 = true := by decide +kernel
noncomputable def cl_a134_0 : List (Nat × e2_S) := [(66, e2_cutL (al_a134_0.set 5 (13, 11, 2147483678)) 3 (E_a134_0.take 3) h_a134_0)]
set_option maxRecDepth 1000000 in
theorem ck_a134_0 : e2_runM (e2_cal S_a134 I_a134 4000 2) (e2_fin rs_a134) e2x_59 (e2_bpL cl_a134_0) (e2_cutA cl_a134_0) 4000 (e2_seek e2x_59 66) al_a134_0 [] E_a134_0 h_a134_0 = true := by decide +kernel
set_option maxRecDepth 1000000 in
theorem ci_a134_0 : e2_idl 3 (al_a134_0.set 5 (9, 0, 0)) = true := by decide +kernel
set_option maxRecDepth 1000000 in
theorem cj_a134_0 : e2_idh 3 8 h_a134_0 = true := by decide +kernel
theorem cs_a134 (hen : en_ok) (l : Launch) (hh : e2_hand_a l) : e2_smOk l 126 s_a134 := by
  refine e2_conG (H := 123) (n := 2) (C := evd_59) (S := S_a134) (I := I_a134) (fuel := 4000) hen ei_59 (e2_fa ((cs_a38 hen l hh).mono (by decide)) (e2_fa (cs_a133 hen l hh) e2_fz)) (e2_fa ein_19 (e2_fa ein_20 (e2_fa ein_60 e2_fz))) (by decide) co_a134 fun M d _ hC hcall p e R s m args below meth c Q D cA A ads r0 ha hl0 => ?_
  have L_0 : e2_gdM M p l e R s m args below meth c Q D cA A ads r0 66 al_a134_0 [] E_a134_0 h_a134_0 := by
    refine e2_indL (u := 3) (j := 5) (lo := 2147483648) (hi := 2147483678) (b := 3) (dd := 0) hl0 (by decide) rfl rfl (Or.inr ⟨rfl, rfl⟩) rfl ci_a134_0 cj_a134_0 ?_
    intro r_0 k_0 hk_0 hp_0 hs_0 hn_0
    have hl_0 : r_0.length ≤ 4 := hs_0.len rfl
    have ha_0 := ha.ext hp_0
    exact e2_fromM hen ha_0 hcall (e2_cutA_ok (e2_fa (fun al st E h hc => hn_0 al st E h hc) e2_fz)) (hC []) (X := e2x_59) ex2_59 66 ck_a134_0
  have EN_0 := e2_entL (u := 3) (j := 5) (lo := 2147483648) (hi := 2147483678) hl0 rfl rfl rfl ci_a134_0 cj_a134_0 L_0
  exact e2_from hen ha hcall (e2_cutA_ok (e2_fa (fun al st E h hc => EN_0 al st E h hc) e2_fz)) (hC []) (X := e2x_59) ex2_59 0 ck_a134_e
/-! a135 X3_parseLevel -/
def as_a135 : List ev_V := [(2, 33, 0), (2, 30, 0), (0, 3, 0), (0, 4, 0)]
def E_a135 : e2_E := [(2147483648, 2147583648, 0, 0), (2147483652, 2147483668, 1, 0), (2147483648, 2147485248, 2, 0)]
noncomputable def f_a135 : ev_H := (an651 : e2_Q8)
noncomputable def q_a135_0 : ev_H := (an651 : e2_Q8)
noncomputable def rs_a135 : e2_Rs := [((11, 2147483648, 2147483649), q_a135_0)]
noncomputable def s_a135 : e2_Sm := (59, as_a135, E_a135, f_a135, rs_a135)
noncomputable def S_a135 : List e2_Sm := [s_a38, s_a134]
noncomputable def I_a135 : List e2_In := [(19, 2, e2x_19), (20, 2, e2x_20), (60, 1, e2x_60)]
set_option maxRecDepth 1000000 in
theorem co_a135 : e2_okSB E_a135.length as_a135 f_a135 rs_a135 = true := by decide +kernel
def al_a135_0 : List ev_V := [(2, 33, 0), (2, 30, 0), (0, 3, 0), (0, 4, 0), (0, 30, 0), (1, 3, 4294967296), (9, 0, 0)]
def E_a135_0 : e2_E := [(2147483648, 2147583648, 0, 0), (2147483652, 2147483668, 1, 0), (2147483648, 2147485248, 2, 0), (2147483648, 2147483678, 3, 0)]
noncomputable def h_a135_0 : ev_H := (an651 : e2_Q8)
noncomputable def cl_a135_e : List (Nat × e2_S) := [(66, e2_cutL (al_a135_0.set 5 (11, 2147483648, 2147483678)) 3 (E_a135_0.take 3) h_a135_0)]
set_option maxRecDepth 1000000 in
theorem ck_a135_e : e2_run (e2_cal S_a135 I_a135 4000 2) (e2_fin rs_a135) e2x_59 (e2_bpL cl_a135_e) (e2_cutA cl_a135_e) 4000 (e2_seek e2x_59 0) (e2_al 7 as_a135) [] E_a135 f_a135 = true := by decide +kernel
noncomputable def cl_a135_0 : List (Nat × e2_S) := [(66, e2_cutL (al_a135_0.set 5 (13, 11, 2147483678)) 3 (E_a135_0.take 3) h_a135_0)]
set_option maxRecDepth 1000000 in
theorem ck_a135_0 : e2_runM (e2_cal S_a135 I_a135 4000 2) (e2_fin rs_a135) e2x_59 (e2_bpL cl_a135_0) (e2_cutA cl_a135_0) 4000 (e2_seek e2x_59 66) al_a135_0 [] E_a135_0 h_a135_0 = true := by decide +kernel
set_option maxRecDepth 1000000 in
theorem ci_a135_0 : e2_idl 3 (al_a135_0.set 5 (9, 0, 0)) = true := by decide +kernel
set_option maxRecDepth 1000000 in
theorem cj_a135_0 : e2_idh 3 8 h_a135_0 = true := by decide +kernel
theorem cs_a135 (hen : en_ok) (l : Launch) (hh : e2_hand_a l) : e2_smOk l 129 s_a135 := by
  refine e2_conG (H := 126) (n := 2) (C := evd_59) (S := S_a135) (I := I_a135) (fuel := 4000) hen ei_59 (e2_fa ((cs_a38 hen l hh).mono (by decide)) (e2_fa (cs_a134 hen l hh) e2_fz)) (e2_fa ein_19 (e2_fa ein_20 (e2_fa ein_60 e2_fz))) (by decide) co_a135 fun M d _ hC hcall p e R s m args below meth c Q D cA A ads r0 ha hl0 => ?_
  have L_0 : e2_gdM M p l e R s m args below meth c Q D cA A ads r0 66 al_a135_0 [] E_a135_0 h_a135_0 := by
    refine e2_indL (u := 3) (j := 5) (lo := 2147483648) (hi := 2147483678) (b := 3) (dd := 0) hl0 (by decide) rfl rfl (Or.inr ⟨rfl, rfl⟩) rfl ci_a135_0 cj_a135_0 ?_
    intro r_0 k_0 hk_0 hp_0 hs_0 hn_0
    have hl_0 : r_0.length ≤ 4 := hs_0.len rfl
    have ha_0 := ha.ext hp_0
    exact e2_fromM hen ha_0 hcall (e2_cutA_ok (e2_fa (fun al st E h hc => hn_0 al st E h hc) e2_fz)) (hC []) (X := e2x_59) ex2_59 66 ck_a135_0
  have EN_0 := e2_entL (u := 3) (j := 5) (lo := 2147483648) (hi := 2147483678) hl0 rfl rfl rfl ci_a135_0 cj_a135_0 L_0
  exact e2_from hen ha hcall (e2_cutA_ok (e2_fa (fun al st E h hc => EN_0 al st E h hc) e2_fz)) (hC []) (X := e2x_59) ex2_59 0 ck_a135_e
/-! a136 X3_parseNot -/
def as_a136 : List ev_V := [(2, 33, 0), (2, 30, 0), (0, 4, 0)]
def E_a136 : e2_E := [(2147483648, 2147583648, 0, 0), (2147483652, 2147483668, 1, 0), (2147483648, 2147485248, 2, 0)]
noncomputable def f_a136 : ev_H := (an651 : e2_Q8)
noncomputable def q_a136_0 : ev_H := (an651 : e2_Q8)
noncomputable def rs_a136 : e2_Rs := [((11, 2147483648, 2147483649), q_a136_0)]
noncomputable def s_a136 : e2_Sm := (61, as_a136, E_a136, f_a136, rs_a136)
noncomputable def S_a136 : List e2_Sm := [s_a38, s_a129]
noncomputable def I_a136 : List e2_In := [(19, 2, e2x_19), (20, 2, e2x_20)]
set_option maxRecDepth 1000000 in
theorem ck_a136 : e2_run (e2_cal S_a136 I_a136 4000 2) (e2_fin rs_a136) e2x_61 (fun _ => false) (fun _ _ _ _ _ => false) 4000 (e2_seek e2x_61 0) (e2_al 3 as_a136) [] E_a136 f_a136 = true := by decide +kernel
set_option maxRecDepth 1000000 in
theorem co_a136 : e2_okSB E_a136.length as_a136 f_a136 rs_a136 = true := by decide +kernel
theorem cs_a136 (hen : en_ok) (l : Launch) (hh : e2_hand_a l) : e2_smOk l 116 s_a136 := e2_con0 (H := 113) (n := 2) (C := evd_61) (S := S_a136) (I := I_a136) (fuel := 4000) [] hen ei_61 (e2_fa ((cs_a38 hen l hh).mono (by decide)) (e2_fa (cs_a129 hen l hh) e2_fz)) (e2_fa ein_19 (e2_fa ein_20 e2_fz)) (by decide) co_a136 ex2_61 ck_a136
/-! a137 X3_parseLevel -/
def as_a137 : List ev_V := [(2, 33, 0), (2, 30, 0), (0, 2, 0), (0, 4, 0)]
def E_a137 : e2_E := [(2147483648, 2147583648, 0, 0), (2147483652, 2147483668, 1, 0), (2147483648, 2147485248, 2, 0)]
noncomputable def f_a137 : ev_H := (an651 : e2_Q8)
noncomputable def q_a137_0 : ev_H := (an651 : e2_Q8)
noncomputable def rs_a137 : e2_Rs := [((11, 2147483648, 2147483649), q_a137_0)]
noncomputable def s_a137 : e2_Sm := (59, as_a137, E_a137, f_a137, rs_a137)
noncomputable def S_a137 : List e2_Sm := [s_a38, s_a135, s_a136]
noncomputable def I_a137 : List e2_In := [(19, 2, e2x_19), (20, 2, e2x_20), (60, 1, e2x_60)]
set_option maxRecDepth 1000000 in
theorem co_a137 : e2_okSB E_a137.length as_a137 f_a137 rs_a137 = true := by decide +kernel
def al_a137_0 : List ev_V := [(2, 33, 0), (2, 30, 0), (0, 2, 0), (0, 4, 0), (0, 1, 0), (1, 3, 4294967296), (9, 0, 0)]
def E_a137_0 : e2_E := [(2147483648, 2147583648, 0, 0), (2147483652, 2147483668, 1, 0), (2147483648, 2147485248, 2, 0), (2147483648, 2147483649, 3, 0)]
noncomputable def h_a137_0 : ev_H := (an651 : e2_Q8)
noncomputable def cl_a137_e : List (Nat × e2_S) := [(66, e2_cutL (al_a137_0.set 5 (11, 2147483648, 2147483649)) 3 (E_a137_0.take 3) h_a137_0)]
set_option maxRecDepth 1000000 in
theorem ck_a137_e : e2_run (e2_cal S_a137 I_a137 4000 2) (e2_fin rs_a137) e2x_59 (e2_bpL cl_a137_e) (e2_cutA cl_a137_e) 4000 (e2_seek e2x_59 0) (e2_al 7 as_a137) [] E_a137 f_a137 = true := by decide +kernel
noncomputable def cl_a137_0 : List (Nat × e2_S) := [(66, e2_cutL (al_a137_0.set 5 (13, 11, 2147483649)) 3 (E_a137_0.take 3) h_a137_0)]
set_option maxRecDepth 1000000 in
theorem ck_a137_0 : e2_runM (e2_cal S_a137 I_a137 4000 2) (e2_fin rs_a137) e2x_59 (e2_bpL cl_a137_0) (e2_cutA cl_a137_0) 4000 (e2_seek e2x_59 66) al_a137_0 [] E_a137_0 h_a137_0 = true := by decide +kernel
set_option maxRecDepth 1000000 in
theorem ci_a137_0 : e2_idl 3 (al_a137_0.set 5 (9, 0, 0)) = true := by decide +kernel
set_option maxRecDepth 1000000 in
theorem cj_a137_0 : e2_idh 3 8 h_a137_0 = true := by decide +kernel
theorem cs_a137 (hen : en_ok) (l : Launch) (hh : e2_hand_a l) : e2_smOk l 132 s_a137 := by
  refine e2_conG (H := 129) (n := 2) (C := evd_59) (S := S_a137) (I := I_a137) (fuel := 4000) hen ei_59 (e2_fa ((cs_a38 hen l hh).mono (by decide)) (e2_fa (cs_a135 hen l hh) (e2_fa ((cs_a136 hen l hh).mono (by decide)) e2_fz))) (e2_fa ein_19 (e2_fa ein_20 (e2_fa ein_60 e2_fz))) (by decide) co_a137 fun M d _ hC hcall p e R s m args below meth c Q D cA A ads r0 ha hl0 => ?_
  have L_0 : e2_gdM M p l e R s m args below meth c Q D cA A ads r0 66 al_a137_0 [] E_a137_0 h_a137_0 := by
    refine e2_indL (u := 3) (j := 5) (lo := 2147483648) (hi := 2147483649) (b := 3) (dd := 0) hl0 (by decide) rfl rfl (Or.inr ⟨rfl, rfl⟩) rfl ci_a137_0 cj_a137_0 ?_
    intro r_0 k_0 hk_0 hp_0 hs_0 hn_0
    have hl_0 : r_0.length ≤ 4 := hs_0.len rfl
    have ha_0 := ha.ext hp_0
    exact e2_fromM hen ha_0 hcall (e2_cutA_ok (e2_fa (fun al st E h hc => hn_0 al st E h hc) e2_fz)) (hC []) (X := e2x_59) ex2_59 66 ck_a137_0
  have EN_0 := e2_entL (u := 3) (j := 5) (lo := 2147483648) (hi := 2147483649) hl0 rfl rfl rfl ci_a137_0 cj_a137_0 L_0
  exact e2_from hen ha hcall (e2_cutA_ok (e2_fa (fun al st E h hc => EN_0 al st E h hc) e2_fz)) (hC []) (X := e2x_59) ex2_59 0 ck_a137_e
/-! a138 X3_parseLevel -/
def as_a138 : List ev_V := [(2, 33, 0), (2, 30, 0), (0, 1, 0), (0, 4, 0)]
def E_a138 : e2_E := [(2147483648, 2147583648, 0, 0), (2147483652, 2147483668, 1, 0), (2147483648, 2147485248, 2, 0)]
noncomputable def f_a138 : ev_H := (an651 : e2_Q8)
noncomputable def q_a138_0 : ev_H := (an651 : e2_Q8)
noncomputable def rs_a138 : e2_Rs := [((11, 2147483648, 2147483649), q_a138_0)]
noncomputable def s_a138 : e2_Sm := (59, as_a138, E_a138, f_a138, rs_a138)
noncomputable def S_a138 : List e2_Sm := [s_a38, s_a137]
noncomputable def I_a138 : List e2_In := [(19, 2, e2x_19), (20, 2, e2x_20), (60, 1, e2x_60)]
set_option maxRecDepth 1000000 in
theorem co_a138 : e2_okSB E_a138.length as_a138 f_a138 rs_a138 = true := by decide +kernel
def al_a138_0 : List ev_V := [(2, 33, 0), (2, 30, 0), (0, 1, 0), (0, 4, 0), (0, 30, 0), (1, 3, 4294967296), (9, 0, 0)]
def E_a138_0 : e2_E := [(2147483648, 2147583648, 0, 0), (2147483652, 2147483668, 1, 0), (2147483648, 2147485248, 2, 0), (2147483648, 2147483678, 3, 0)]
noncomputable def h_a138_0 : ev_H := (an651 : e2_Q8)
noncomputable def cl_a138_e : List (Nat × e2_S) := [(66, e2_cutL (al_a138_0.set 5 (11, 2147483648, 2147483678)) 3 (E_a138_0.take 3) h_a138_0)]
set_option maxRecDepth 1000000 in
theorem ck_a138_e : e2_run (e2_cal S_a138 I_a138 4000 2) (e2_fin rs_a138) e2x_59 (e2_bpL cl_a138_e) (e2_cutA cl_a138_e) 4000 (e2_seek e2x_59 0) (e2_al 7 as_a138) [] E_a138 f_a138 = true := by decide +kernel
noncomputable def cl_a138_0 : List (Nat × e2_S) := [(66, e2_cutL (al_a138_0.set 5 (13, 11, 2147483678)) 3 (E_a138_0.take 3) h_a138_0)]
set_option maxRecDepth 1000000 in
theorem ck_a138_0 : e2_runM (e2_cal S_a138 I_a138 4000 2) (e2_fin rs_a138) e2x_59 (e2_bpL cl_a138_0) (e2_cutA cl_a138_0) 4000 (e2_seek e2x_59 66) al_a138_0 [] E_a138_0 h_a138_0 = true := by decide +kernel
set_option maxRecDepth 1000000 in
theorem ci_a138_0 : e2_idl 3 (al_a138_0.set 5 (9, 0, 0)) = true := by decide +kernel
set_option maxRecDepth 1000000 in
theorem cj_a138_0 : e2_idh 3 8 h_a138_0 = true := by decide +kernel
theorem cs_a138 (hen : en_ok) (l : Launch) (hh : e2_hand_a l) : e2_smOk l 135 s_a138 := by
  refine e2_conG (H := 132) (n := 2) (C := evd_59) (S := S_a138) (I := I_a138) (fuel := 4000) hen ei_59 (e2_fa ((cs_a38 hen l hh).mono (by decide)) (e2_fa (cs_a137 hen l hh) e2_fz)) (e2_fa ein_19 (e2_fa ein_20 (e2_fa ein_60 e2_fz))) (by decide) co_a138 fun M d _ hC hcall p e R s m args below meth c Q D cA A ads r0 ha hl0 => ?_
  have L_0 : e2_gdM M p l e R s m args below meth c Q D cA A ads r0 66 al_a138_0 [] E_a138_0 h_a138_0 := by
    refine e2_indL (u := 3) (j := 5) (lo := 2147483648) (hi := 2147483678) (b := 3) (dd := 0) hl0 (by decide) rfl rfl (Or.inr ⟨rfl, rfl⟩) rfl ci_a138_0 cj_a138_0 ?_
    intro r_0 k_0 hk_0 hp_0 hs_0 hn_0
    have hl_0 : r_0.length ≤ 4 := hs_0.len rfl
    have ha_0 := ha.ext hp_0
    exact e2_fromM hen ha_0 hcall (e2_cutA_ok (e2_fa (fun al st E h hc => hn_0 al st E h hc) e2_fz)) (hC []) (X := e2x_59) ex2_59 66 ck_a138_0
  have EN_0 := e2_entL (u := 3) (j := 5) (lo := 2147483648) (hi := 2147483678) hl0 rfl rfl rfl ci_a138_0 cj_a138_0 L_0
  exact e2_from hen ha hcall (e2_cutA_ok (e2_fa (fun al st E h hc => EN_0 al st E h hc) e2_fz)) (hC []) (X := e2x_59) ex2_59 0 ck_a138_e
/-! a139 X3_parseLevel -/
def as_a139 : List ev_V := [(2, 33, 0), (2, 30, 0), (0, 0, 0), (0, 4, 0)]
def E_a139 : e2_E := [(2147483648, 2147583648, 0, 0), (2147483652, 2147483668, 1, 0), (2147483648, 2147485248, 2, 0)]
noncomputable def f_a139 : ev_H := (an651 : e2_Q8)
noncomputable def q_a139_0 : ev_H := (an651 : e2_Q8)
noncomputable def rs_a139 : e2_Rs := [((11, 2147483648, 2147483649), q_a139_0)]
noncomputable def s_a139 : e2_Sm := (59, as_a139, E_a139, f_a139, rs_a139)
noncomputable def S_a139 : List e2_Sm := [s_a38, s_a138]
noncomputable def I_a139 : List e2_In := [(19, 2, e2x_19), (20, 2, e2x_20), (60, 1, e2x_60)]
set_option maxRecDepth 1000000 in
theorem co_a139 : e2_okSB E_a139.length as_a139 f_a139 rs_a139 = true := by decide +kernel
def al_a139_0 : List ev_V := [(2, 33, 0), (2, 30, 0), (0, 0, 0), (0, 4, 0), (0, 30, 0), (1, 3, 4294967296), (9, 0, 0)]
def E_a139_0 : e2_E := [(2147483648, 2147583648, 0, 0), (2147483652, 2147483668, 1, 0), (2147483648, 2147485248, 2, 0), (2147483648, 2147483678, 3, 0)]
noncomputable def h_a139_0 : ev_H := (an651 : e2_Q8)
noncomputable def cl_a139_e : List (Nat × e2_S) := [(66, e2_cutL (al_a139_0.set 5 (11, 2147483648, 2147483678)) 3 (E_a139_0.take 3) h_a139_0)]
set_option maxRecDepth 1000000 in
theorem ck_a139_e : e2_run (e2_cal S_a139 I_a139 4000 2) (e2_fin rs_a139) e2x_59 (e2_bpL cl_a139_e) (e2_cutA cl_a139_e) 4000 (e2_seek e2x_59 0) (e2_al 7 as_a139) [] E_a139 f_a139 = true := by decide +kernel
noncomputable def cl_a139_0 : List (Nat × e2_S) := [(66, e2_cutL (al_a139_0.set 5 (13, 11, 2147483678)) 3 (E_a139_0.take 3) h_a139_0)]
set_option maxRecDepth 1000000 in
theorem ck_a139_0 : e2_runM (e2_cal S_a139 I_a139 4000 2) (e2_fin rs_a139) e2x_59 (e2_bpL cl_a139_0) (e2_cutA cl_a139_0) 4000 (e2_seek e2x_59 66) al_a139_0 [] E_a139_0 h_a139_0 = true := by decide +kernel
set_option maxRecDepth 1000000 in
theorem ci_a139_0 : e2_idl 3 (al_a139_0.set 5 (9, 0, 0)) = true := by decide +kernel
set_option maxRecDepth 1000000 in
theorem cj_a139_0 : e2_idh 3 8 h_a139_0 = true := by decide +kernel
theorem cs_a139 (hen : en_ok) (l : Launch) (hh : e2_hand_a l) : e2_smOk l 138 s_a139 := by
  refine e2_conG (H := 135) (n := 2) (C := evd_59) (S := S_a139) (I := I_a139) (fuel := 4000) hen ei_59 (e2_fa ((cs_a38 hen l hh).mono (by decide)) (e2_fa (cs_a138 hen l hh) e2_fz)) (e2_fa ein_19 (e2_fa ein_20 (e2_fa ein_60 e2_fz))) (by decide) co_a139 fun M d _ hC hcall p e R s m args below meth c Q D cA A ads r0 ha hl0 => ?_
  have L_0 : e2_gdM M p l e R s m args below meth c Q D cA A ads r0 66 al_a139_0 [] E_a139_0 h_a139_0 := by
    refine e2_indL (u := 3) (j := 5) (lo := 2147483648) (hi := 2147483678) (b := 3) (dd := 0) hl0 (by decide) rfl rfl (Or.inr ⟨rfl, rfl⟩) rfl ci_a139_0 cj_a139_0 ?_
    intro r_0 k_0 hk_0 hp_0 hs_0 hn_0
    have hl_0 : r_0.length ≤ 4 := hs_0.len rfl
    have ha_0 := ha.ext hp_0
    exact e2_fromM hen ha_0 hcall (e2_cutA_ok (e2_fa (fun al st E h hc => hn_0 al st E h hc) e2_fz)) (hC []) (X := e2x_59) ex2_59 66 ck_a139_0
  have EN_0 := e2_entL (u := 3) (j := 5) (lo := 2147483648) (hi := 2147483678) hl0 rfl rfl rfl ci_a139_0 cj_a139_0 L_0
  exact e2_from hen ha hcall (e2_cutA_ok (e2_fa (fun al st E h hc => EN_0 al st E h hc) e2_fz)) (hC []) (X := e2x_59) ex2_59 0 ck_a139_e
/-! a140 X3_parseUnit -/
def as_a140 : List ev_V := [(2, 33, 0), (2, 30, 0), (0, 3, 0)]
def E_a140 : e2_E := [(2147483648, 2147583648, 0, 0), (2147483652, 2147483668, 1, 0), (2147483648, 2147485248, 2, 0)]
noncomputable def f_a140 : ev_H := (an651 : e2_Q8)
noncomputable def q_a140_0 : ev_H := (an651 : e2_Q8)
noncomputable def rs_a140 : e2_Rs := [((11, 2147483648, 2147483649), q_a140_0)]
noncomputable def s_a140 : e2_Sm := (62, as_a140, E_a140, f_a140, rs_a140)
noncomputable def S_a140 : List e2_Sm := [s_a38, s_a39, s_a139]
noncomputable def I_a140 : List e2_In := [(18, 2, e2x_18), (19, 2, e2x_19), (20, 2, e2x_20), (43, 2, e2x_43), (44, 3, e2x_44)]
set_option maxRecDepth 1000000 in
theorem ck_a140 : e2_run (e2_cal S_a140 I_a140 4000 2) (e2_fin rs_a140) e2x_62 (fun _ => false) (fun _ _ _ _ _ => false) 4000 (e2_seek e2x_62 0) (e2_al 7 as_a140) [] E_a140 f_a140 = true := by decide +kernel
set_option maxRecDepth 1000000 in
theorem co_a140 : e2_okSB E_a140.length as_a140 f_a140 rs_a140 = true := by decide +kernel
theorem cs_a140 (hen : en_ok) (l : Launch) (hh : e2_hand_a l) : e2_smOk l 141 s_a140 := e2_con0 (H := 138) (n := 2) (C := evd_62) (S := S_a140) (I := I_a140) (fuel := 4000) [] hen ei_62 (e2_fa ((cs_a38 hen l hh).mono (by decide)) (e2_fa ((cs_a39 hen l hh).mono (by decide)) (e2_fa (cs_a139 hen l hh) e2_fz))) (e2_fa ein_18 (e2_fa ein_19 (e2_fa ein_20 (e2_fa ein_43 (e2_fa ein_44 e2_fz))))) (by decide) co_a140 ex2_62 ck_a140
/-! a141 X3_parseLevel -/
def as_a141 : List ev_V := [(2, 33, 0), (2, 30, 0), (0, 5, 0), (0, 3, 0)]
def E_a141 : e2_E := [(2147483648, 2147583648, 0, 0), (2147483652, 2147483668, 1, 0), (2147483648, 2147485248, 2, 0)]
noncomputable def f_a141 : ev_H := (an651 : e2_Q8)
noncomputable def q_a141_0 : ev_H := (an651 : e2_Q8)
noncomputable def rs_a141 : e2_Rs := [((11, 2147483648, 2147483649), q_a141_0)]
noncomputable def s_a141 : e2_Sm := (59, as_a141, E_a141, f_a141, rs_a141)
noncomputable def S_a141 : List e2_Sm := [s_a140]
noncomputable def I_a141 : List e2_In := []
set_option maxRecDepth 1000000 in
theorem ck_a141 : e2_run (e2_cal S_a141 I_a141 4000 0) (e2_fin rs_a141) e2x_59 (fun _ => false) (fun _ _ _ _ _ => false) 4000 (e2_seek e2x_59 0) (e2_al 7 as_a141) [] E_a141 f_a141 = true := by decide +kernel
set_option maxRecDepth 1000000 in
theorem co_a141 : e2_okSB E_a141.length as_a141 f_a141 rs_a141 = true := by decide +kernel
theorem cs_a141 (hen : en_ok) (l : Launch) (hh : e2_hand_a l) : e2_smOk l 142 s_a141 := e2_con0 (H := 141) (n := 0) (C := evd_59) (S := S_a141) (I := I_a141) (fuel := 4000) [] hen ei_59 (e2_fa (cs_a140 hen l hh) e2_fz) e2_fz (by decide) co_a141 ex2_59 ck_a141
/-! a142 X3_parseLevel -/
def as_a142 : List ev_V := [(2, 33, 0), (2, 30, 0), (0, 4, 0), (0, 3, 0)]
def E_a142 : e2_E := [(2147483648, 2147583648, 0, 0), (2147483652, 2147483668, 1, 0), (2147483648, 2147485248, 2, 0)]
noncomputable def f_a142 : ev_H := (an651 : e2_Q8)
noncomputable def q_a142_0 : ev_H := (an651 : e2_Q8)
noncomputable def rs_a142 : e2_Rs := [((11, 2147483648, 2147483649), q_a142_0)]
noncomputable def s_a142 : e2_Sm := (59, as_a142, E_a142, f_a142, rs_a142)
noncomputable def S_a142 : List e2_Sm := [s_a38, s_a141]
noncomputable def I_a142 : List e2_In := [(19, 2, e2x_19), (20, 2, e2x_20), (60, 1, e2x_60)]
set_option maxRecDepth 1000000 in
theorem co_a142 : e2_okSB E_a142.length as_a142 f_a142 rs_a142 = true := by decide +kernel
def al_a142_0 : List ev_V := [(2, 33, 0), (2, 30, 0), (0, 4, 0), (0, 3, 0), (0, 30, 0), (1, 3, 4294967296), (9, 0, 0)]
def E_a142_0 : e2_E := [(2147483648, 2147583648, 0, 0), (2147483652, 2147483668, 1, 0), (2147483648, 2147485248, 2, 0), (2147483648, 2147483678, 3, 0)]
noncomputable def h_a142_0 : ev_H := (an651 : e2_Q8)
noncomputable def cl_a142_e : List (Nat × e2_S) := [(66, e2_cutL (al_a142_0.set 5 (11, 2147483648, 2147483678)) 3 (E_a142_0.take 3) h_a142_0)]
set_option maxRecDepth 1000000 in
theorem ck_a142_e : e2_run (e2_cal S_a142 I_a142 4000 2) (e2_fin rs_a142) e2x_59 (e2_bpL cl_a142_e) (e2_cutA cl_a142_e) 4000 (e2_seek e2x_59 0) (e2_al 7 as_a142) [] E_a142 f_a142 = true := by decide +kernel
noncomputable def cl_a142_0 : List (Nat × e2_S) := [(66, e2_cutL (al_a142_0.set 5 (13, 11, 2147483678)) 3 (E_a142_0.take 3) h_a142_0)]
set_option maxRecDepth 1000000 in
theorem ck_a142_0 : e2_runM (e2_cal S_a142 I_a142 4000 2) (e2_fin rs_a142) e2x_59 (e2_bpL cl_a142_0) (e2_cutA cl_a142_0) 4000 (e2_seek e2x_59 66) al_a142_0 [] E_a142_0 h_a142_0 = true := by decide +kernel
set_option maxRecDepth 1000000 in
theorem ci_a142_0 : e2_idl 3 (al_a142_0.set 5 (9, 0, 0)) = true := by decide +kernel
set_option maxRecDepth 1000000 in
theorem cj_a142_0 : e2_idh 3 8 h_a142_0 = true := by decide +kernel
theorem cs_a142 (hen : en_ok) (l : Launch) (hh : e2_hand_a l) : e2_smOk l 145 s_a142 := by
  refine e2_conG (H := 142) (n := 2) (C := evd_59) (S := S_a142) (I := I_a142) (fuel := 4000) hen ei_59 (e2_fa ((cs_a38 hen l hh).mono (by decide)) (e2_fa (cs_a141 hen l hh) e2_fz)) (e2_fa ein_19 (e2_fa ein_20 (e2_fa ein_60 e2_fz))) (by decide) co_a142 fun M d _ hC hcall p e R s m args below meth c Q D cA A ads r0 ha hl0 => ?_
  have L_0 : e2_gdM M p l e R s m args below meth c Q D cA A ads r0 66 al_a142_0 [] E_a142_0 h_a142_0 := by
    refine e2_indL (u := 3) (j := 5) (lo := 2147483648) (hi := 2147483678) (b := 3) (dd := 0) hl0 (by decide) rfl rfl (Or.inr ⟨rfl, rfl⟩) rfl ci_a142_0 cj_a142_0 ?_
    intro r_0 k_0 hk_0 hp_0 hs_0 hn_0
    have hl_0 : r_0.length ≤ 4 := hs_0.len rfl
    have ha_0 := ha.ext hp_0
    exact e2_fromM hen ha_0 hcall (e2_cutA_ok (e2_fa (fun al st E h hc => hn_0 al st E h hc) e2_fz)) (hC []) (X := e2x_59) ex2_59 66 ck_a142_0
  have EN_0 := e2_entL (u := 3) (j := 5) (lo := 2147483648) (hi := 2147483678) hl0 rfl rfl rfl ci_a142_0 cj_a142_0 L_0
  exact e2_from hen ha hcall (e2_cutA_ok (e2_fa (fun al st E h hc => EN_0 al st E h hc) e2_fz)) (hC []) (X := e2x_59) ex2_59 0 ck_a142_e
/-! a143 X3_parseLevel -/
def as_a143 : List ev_V := [(2, 33, 0), (2, 30, 0), (0, 3, 0), (0, 3, 0)]
def E_a143 : e2_E := [(2147483648, 2147583648, 0, 0), (2147483652, 2147483668, 1, 0), (2147483648, 2147485248, 2, 0)]
noncomputable def f_a143 : ev_H := (an651 : e2_Q8)
noncomputable def q_a143_0 : ev_H := (an651 : e2_Q8)
noncomputable def rs_a143 : e2_Rs := [((11, 2147483648, 2147483649), q_a143_0)]
noncomputable def s_a143 : e2_Sm := (59, as_a143, E_a143, f_a143, rs_a143)
noncomputable def S_a143 : List e2_Sm := [s_a38, s_a142]
noncomputable def I_a143 : List e2_In := [(19, 2, e2x_19), (20, 2, e2x_20), (60, 1, e2x_60)]
set_option maxRecDepth 1000000 in
theorem co_a143 : e2_okSB E_a143.length as_a143 f_a143 rs_a143 = true := by decide +kernel
def al_a143_0 : List ev_V := [(2, 33, 0), (2, 30, 0), (0, 3, 0), (0, 3, 0), (0, 30, 0), (1, 3, 4294967296), (9, 0, 0)]
def E_a143_0 : e2_E := [(2147483648, 2147583648, 0, 0), (2147483652, 2147483668, 1, 0), (2147483648, 2147485248, 2, 0), (2147483648, 2147483678, 3, 0)]
noncomputable def h_a143_0 : ev_H := (an651 : e2_Q8)
noncomputable def cl_a143_e : List (Nat × e2_S) := [(66, e2_cutL (al_a143_0.set 5 (11, 2147483648, 2147483678)) 3 (E_a143_0.take 3) h_a143_0)]
set_option maxRecDepth 1000000 in
theorem ck_a143_e : e2_run (e2_cal S_a143 I_a143 4000 2) (e2_fin rs_a143) e2x_59 (e2_bpL cl_a143_e) (e2_cutA cl_a143_e) 4000 (e2_seek e2x_59 0) (e2_al 7 as_a143) [] E_a143 f_a143 = true := by decide +kernel
noncomputable def cl_a143_0 : List (Nat × e2_S) := [(66, e2_cutL (al_a143_0.set 5 (13, 11, 2147483678)) 3 (E_a143_0.take 3) h_a143_0)]
set_option maxRecDepth 1000000 in
theorem ck_a143_0 : e2_runM (e2_cal S_a143 I_a143 4000 2) (e2_fin rs_a143) e2x_59 (e2_bpL cl_a143_0) (e2_cutA cl_a143_0) 4000 (e2_seek e2x_59 66) al_a143_0 [] E_a143_0 h_a143_0 = true := by decide +kernel
set_option maxRecDepth 1000000 in
theorem ci_a143_0 : e2_idl 3 (al_a143_0.set 5 (9, 0, 0)) = true := by decide +kernel
set_option maxRecDepth 1000000 in
theorem cj_a143_0 : e2_idh 3 8 h_a143_0 = true := by decide +kernel
theorem cs_a143 (hen : en_ok) (l : Launch) (hh : e2_hand_a l) : e2_smOk l 148 s_a143 := by
  refine e2_conG (H := 145) (n := 2) (C := evd_59) (S := S_a143) (I := I_a143) (fuel := 4000) hen ei_59 (e2_fa ((cs_a38 hen l hh).mono (by decide)) (e2_fa (cs_a142 hen l hh) e2_fz)) (e2_fa ein_19 (e2_fa ein_20 (e2_fa ein_60 e2_fz))) (by decide) co_a143 fun M d _ hC hcall p e R s m args below meth c Q D cA A ads r0 ha hl0 => ?_
  have L_0 : e2_gdM M p l e R s m args below meth c Q D cA A ads r0 66 al_a143_0 [] E_a143_0 h_a143_0 := by
    refine e2_indL (u := 3) (j := 5) (lo := 2147483648) (hi := 2147483678) (b := 3) (dd := 0) hl0 (by decide) rfl rfl (Or.inr ⟨rfl, rfl⟩) rfl ci_a143_0 cj_a143_0 ?_
    intro r_0 k_0 hk_0 hp_0 hs_0 hn_0
    have hl_0 : r_0.length ≤ 4 := hs_0.len rfl
    have ha_0 := ha.ext hp_0
    exact e2_fromM hen ha_0 hcall (e2_cutA_ok (e2_fa (fun al st E h hc => hn_0 al st E h hc) e2_fz)) (hC []) (X := e2x_59) ex2_59 66 ck_a143_0
  have EN_0 := e2_entL (u := 3) (j := 5) (lo := 2147483648) (hi := 2147483678) hl0 rfl rfl rfl ci_a143_0 cj_a143_0 L_0
  exact e2_from hen ha hcall (e2_cutA_ok (e2_fa (fun al st E h hc => EN_0 al st E h hc) e2_fz)) (hC []) (X := e2x_59) ex2_59 0 ck_a143_e
/-! a144 X3_parseNot -/
def as_a144 : List ev_V := [(2, 33, 0), (2, 30, 0), (0, 3, 0)]
def E_a144 : e2_E := [(2147483648, 2147583648, 0, 0), (2147483652, 2147483668, 1, 0), (2147483648, 2147485248, 2, 0)]
noncomputable def f_a144 : ev_H := (an651 : e2_Q8)
noncomputable def q_a144_0 : ev_H := (an651 : e2_Q8)
noncomputable def rs_a144 : e2_Rs := [((11, 2147483648, 2147483649), q_a144_0)]
noncomputable def s_a144 : e2_Sm := (61, as_a144, E_a144, f_a144, rs_a144)
noncomputable def S_a144 : List e2_Sm := [s_a38, s_a137]
noncomputable def I_a144 : List e2_In := [(19, 2, e2x_19), (20, 2, e2x_20)]
set_option maxRecDepth 1000000 in
theorem ck_a144 : e2_run (e2_cal S_a144 I_a144 4000 2) (e2_fin rs_a144) e2x_61 (fun _ => false) (fun _ _ _ _ _ => false) 4000 (e2_seek e2x_61 0) (e2_al 3 as_a144) [] E_a144 f_a144 = true := by decide +kernel
set_option maxRecDepth 1000000 in
theorem co_a144 : e2_okSB E_a144.length as_a144 f_a144 rs_a144 = true := by decide +kernel
theorem cs_a144 (hen : en_ok) (l : Launch) (hh : e2_hand_a l) : e2_smOk l 135 s_a144 := e2_con0 (H := 132) (n := 2) (C := evd_61) (S := S_a144) (I := I_a144) (fuel := 4000) [] hen ei_61 (e2_fa ((cs_a38 hen l hh).mono (by decide)) (e2_fa (cs_a137 hen l hh) e2_fz)) (e2_fa ein_19 (e2_fa ein_20 e2_fz)) (by decide) co_a144 ex2_61 ck_a144
/-! a145 X3_parseLevel -/
def as_a145 : List ev_V := [(2, 33, 0), (2, 30, 0), (0, 2, 0), (0, 3, 0)]
def E_a145 : e2_E := [(2147483648, 2147583648, 0, 0), (2147483652, 2147483668, 1, 0), (2147483648, 2147485248, 2, 0)]
noncomputable def f_a145 : ev_H := (an651 : e2_Q8)
noncomputable def q_a145_0 : ev_H := (an651 : e2_Q8)
noncomputable def rs_a145 : e2_Rs := [((11, 2147483648, 2147483649), q_a145_0)]
noncomputable def s_a145 : e2_Sm := (59, as_a145, E_a145, f_a145, rs_a145)
noncomputable def S_a145 : List e2_Sm := [s_a38, s_a143, s_a144]
noncomputable def I_a145 : List e2_In := [(19, 2, e2x_19), (20, 2, e2x_20), (60, 1, e2x_60)]
set_option maxRecDepth 1000000 in
theorem co_a145 : e2_okSB E_a145.length as_a145 f_a145 rs_a145 = true := by decide +kernel
def al_a145_0 : List ev_V := [(2, 33, 0), (2, 30, 0), (0, 2, 0), (0, 3, 0), (0, 1, 0), (1, 3, 4294967296), (9, 0, 0)]
def E_a145_0 : e2_E := [(2147483648, 2147583648, 0, 0), (2147483652, 2147483668, 1, 0), (2147483648, 2147485248, 2, 0), (2147483648, 2147483649, 3, 0)]
noncomputable def h_a145_0 : ev_H := (an651 : e2_Q8)
noncomputable def cl_a145_e : List (Nat × e2_S) := [(66, e2_cutL (al_a145_0.set 5 (11, 2147483648, 2147483649)) 3 (E_a145_0.take 3) h_a145_0)]
set_option maxRecDepth 1000000 in
theorem ck_a145_e : e2_run (e2_cal S_a145 I_a145 4000 2) (e2_fin rs_a145) e2x_59 (e2_bpL cl_a145_e) (e2_cutA cl_a145_e) 4000 (e2_seek e2x_59 0) (e2_al 7 as_a145) [] E_a145 f_a145 = true := by decide +kernel
noncomputable def cl_a145_0 : List (Nat × e2_S) := [(66, e2_cutL (al_a145_0.set 5 (13, 11, 2147483649)) 3 (E_a145_0.take 3) h_a145_0)]
set_option maxRecDepth 1000000 in
theorem ck_a145_0 : e2_runM (e2_cal S_a145 I_a145 4000 2) (e2_fin rs_a145) e2x_59 (e2_bpL cl_a145_0) (e2_cutA cl_a145_0) 4000 (e2_seek e2x_59 66) al_a145_0 [] E_a145_0 h_a145_0 = true := by decide +kernel
set_option maxRecDepth 1000000 in
theorem ci_a145_0 : e2_idl 3 (al_a145_0.set 5 (9, 0, 0)) = true := by decide +kernel
set_option maxRecDepth 1000000 in
theorem cj_a145_0 : e2_idh 3 8 h_a145_0 = true := by decide +kernel
theorem cs_a145 (hen : en_ok) (l : Launch) (hh : e2_hand_a l) : e2_smOk l 151 s_a145 := by
  refine e2_conG (H := 148) (n := 2) (C := evd_59) (S := S_a145) (I := I_a145) (fuel := 4000) hen ei_59 (e2_fa ((cs_a38 hen l hh).mono (by decide)) (e2_fa (cs_a143 hen l hh) (e2_fa ((cs_a144 hen l hh).mono (by decide)) e2_fz))) (e2_fa ein_19 (e2_fa ein_20 (e2_fa ein_60 e2_fz))) (by decide) co_a145 fun M d _ hC hcall p e R s m args below meth c Q D cA A ads r0 ha hl0 => ?_
  have L_0 : e2_gdM M p l e R s m args below meth c Q D cA A ads r0 66 al_a145_0 [] E_a145_0 h_a145_0 := by
    refine e2_indL (u := 3) (j := 5) (lo := 2147483648) (hi := 2147483649) (b := 3) (dd := 0) hl0 (by decide) rfl rfl (Or.inr ⟨rfl, rfl⟩) rfl ci_a145_0 cj_a145_0 ?_
    intro r_0 k_0 hk_0 hp_0 hs_0 hn_0
    have hl_0 : r_0.length ≤ 4 := hs_0.len rfl
    have ha_0 := ha.ext hp_0
    exact e2_fromM hen ha_0 hcall (e2_cutA_ok (e2_fa (fun al st E h hc => hn_0 al st E h hc) e2_fz)) (hC []) (X := e2x_59) ex2_59 66 ck_a145_0
  have EN_0 := e2_entL (u := 3) (j := 5) (lo := 2147483648) (hi := 2147483649) hl0 rfl rfl rfl ci_a145_0 cj_a145_0 L_0
  exact e2_from hen ha hcall (e2_cutA_ok (e2_fa (fun al st E h hc => EN_0 al st E h hc) e2_fz)) (hC []) (X := e2x_59) ex2_59 0 ck_a145_e
/-! a146 X3_parseLevel -/
def as_a146 : List ev_V := [(2, 33, 0), (2, 30, 0), (0, 1, 0), (0, 3, 0)]
def E_a146 : e2_E := [(2147483648, 2147583648, 0, 0), (2147483652, 2147483668, 1, 0), (2147483648, 2147485248, 2, 0)]
noncomputable def f_a146 : ev_H := (an651 : e2_Q8)
noncomputable def q_a146_0 : ev_H := (an651 : e2_Q8)
noncomputable def rs_a146 : e2_Rs := [((11, 2147483648, 2147483649), q_a146_0)]
noncomputable def s_a146 : e2_Sm := (59, as_a146, E_a146, f_a146, rs_a146)
noncomputable def S_a146 : List e2_Sm := [s_a38, s_a145]
noncomputable def I_a146 : List e2_In := [(19, 2, e2x_19), (20, 2, e2x_20), (60, 1, e2x_60)]
set_option maxRecDepth 1000000 in
theorem co_a146 : e2_okSB E_a146.length as_a146 f_a146 rs_a146 = true := by decide +kernel
def al_a146_0 : List ev_V := [(2, 33, 0), (2, 30, 0), (0, 1, 0), (0, 3, 0), (0, 30, 0), (1, 3, 4294967296), (9, 0, 0)]
def E_a146_0 : e2_E := [(2147483648, 2147583648, 0, 0), (2147483652, 2147483668, 1, 0), (2147483648, 2147485248, 2, 0), (2147483648, 2147483678, 3, 0)]
noncomputable def h_a146_0 : ev_H := (an651 : e2_Q8)
noncomputable def cl_a146_e : List (Nat × e2_S) := [(66, e2_cutL (al_a146_0.set 5 (11, 2147483648, 2147483678)) 3 (E_a146_0.take 3) h_a146_0)]
set_option maxRecDepth 1000000 in
theorem ck_a146_e : e2_run (e2_cal S_a146 I_a146 4000 2) (e2_fin rs_a146) e2x_59 (e2_bpL cl_a146_e) (e2_cutA cl_a146_e) 4000 (e2_seek e2x_59 0) (e2_al 7 as_a146) [] E_a146 f_a146 = true := by decide +kernel
noncomputable def cl_a146_0 : List (Nat × e2_S) := [(66, e2_cutL (al_a146_0.set 5 (13, 11, 2147483678)) 3 (E_a146_0.take 3) h_a146_0)]
set_option maxRecDepth 1000000 in
theorem ck_a146_0 : e2_runM (e2_cal S_a146 I_a146 4000 2) (e2_fin rs_a146) e2x_59 (e2_bpL cl_a146_0) (e2_cutA cl_a146_0) 4000 (e2_seek e2x_59 66) al_a146_0 [] E_a146_0 h_a146_0 = true := by decide +kernel
set_option maxRecDepth 1000000 in
theorem ci_a146_0 : e2_idl 3 (al_a146_0.set 5 (9, 0, 0)) = true := by decide +kernel
set_option maxRecDepth 1000000 in
theorem cj_a146_0 : e2_idh 3 8 h_a146_0 = true := by decide +kernel
theorem cs_a146 (hen : en_ok) (l : Launch) (hh : e2_hand_a l) : e2_smOk l 154 s_a146 := by
  refine e2_conG (H := 151) (n := 2) (C := evd_59) (S := S_a146) (I := I_a146) (fuel := 4000) hen ei_59 (e2_fa ((cs_a38 hen l hh).mono (by decide)) (e2_fa (cs_a145 hen l hh) e2_fz)) (e2_fa ein_19 (e2_fa ein_20 (e2_fa ein_60 e2_fz))) (by decide) co_a146 fun M d _ hC hcall p e R s m args below meth c Q D cA A ads r0 ha hl0 => ?_
  have L_0 : e2_gdM M p l e R s m args below meth c Q D cA A ads r0 66 al_a146_0 [] E_a146_0 h_a146_0 := by
    refine e2_indL (u := 3) (j := 5) (lo := 2147483648) (hi := 2147483678) (b := 3) (dd := 0) hl0 (by decide) rfl rfl (Or.inr ⟨rfl, rfl⟩) rfl ci_a146_0 cj_a146_0 ?_
    intro r_0 k_0 hk_0 hp_0 hs_0 hn_0
    have hl_0 : r_0.length ≤ 4 := hs_0.len rfl
    have ha_0 := ha.ext hp_0
    exact e2_fromM hen ha_0 hcall (e2_cutA_ok (e2_fa (fun al st E h hc => hn_0 al st E h hc) e2_fz)) (hC []) (X := e2x_59) ex2_59 66 ck_a146_0
  have EN_0 := e2_entL (u := 3) (j := 5) (lo := 2147483648) (hi := 2147483678) hl0 rfl rfl rfl ci_a146_0 cj_a146_0 L_0
  exact e2_from hen ha hcall (e2_cutA_ok (e2_fa (fun al st E h hc => EN_0 al st E h hc) e2_fz)) (hC []) (X := e2x_59) ex2_59 0 ck_a146_e
/-! a147 X3_parseLevel -/
def as_a147 : List ev_V := [(2, 33, 0), (2, 30, 0), (0, 0, 0), (0, 3, 0)]
def E_a147 : e2_E := [(2147483648, 2147583648, 0, 0), (2147483652, 2147483668, 1, 0), (2147483648, 2147485248, 2, 0)]
noncomputable def f_a147 : ev_H := (an651 : e2_Q8)
noncomputable def q_a147_0 : ev_H := (an651 : e2_Q8)
noncomputable def rs_a147 : e2_Rs := [((11, 2147483648, 2147483649), q_a147_0)]
noncomputable def s_a147 : e2_Sm := (59, as_a147, E_a147, f_a147, rs_a147)
noncomputable def S_a147 : List e2_Sm := [s_a38, s_a146]
noncomputable def I_a147 : List e2_In := [(19, 2, e2x_19), (20, 2, e2x_20), (60, 1, e2x_60)]
set_option maxRecDepth 1000000 in
theorem co_a147 : e2_okSB E_a147.length as_a147 f_a147 rs_a147 = true := by decide +kernel
def al_a147_0 : List ev_V := [(2, 33, 0), (2, 30, 0), (0, 0, 0), (0, 3, 0), (0, 30, 0), (1, 3, 4294967296), (9, 0, 0)]
def E_a147_0 : e2_E := [(2147483648, 2147583648, 0, 0), (2147483652, 2147483668, 1, 0), (2147483648, 2147485248, 2, 0), (2147483648, 2147483678, 3, 0)]
noncomputable def h_a147_0 : ev_H := (an651 : e2_Q8)
noncomputable def cl_a147_e : List (Nat × e2_S) := [(66, e2_cutL (al_a147_0.set 5 (11, 2147483648, 2147483678)) 3 (E_a147_0.take 3) h_a147_0)]
set_option maxRecDepth 1000000 in
theorem ck_a147_e : e2_run (e2_cal S_a147 I_a147 4000 2) (e2_fin rs_a147) e2x_59 (e2_bpL cl_a147_e) (e2_cutA cl_a147_e) 4000 (e2_seek e2x_59 0) (e2_al 7 as_a147) [] E_a147 f_a147 = true := by decide +kernel
noncomputable def cl_a147_0 : List (Nat × e2_S) := [(66, e2_cutL (al_a147_0.set 5 (13, 11, 2147483678)) 3 (E_a147_0.take 3) h_a147_0)]
set_option maxRecDepth 1000000 in
theorem ck_a147_0 : e2_runM (e2_cal S_a147 I_a147 4000 2) (e2_fin rs_a147) e2x_59 (e2_bpL cl_a147_0) (e2_cutA cl_a147_0) 4000 (e2_seek e2x_59 66) al_a147_0 [] E_a147_0 h_a147_0 = true := by decide +kernel
set_option maxRecDepth 1000000 in
theorem ci_a147_0 : e2_idl 3 (al_a147_0.set 5 (9, 0, 0)) = true := by decide +kernel
set_option maxRecDepth 1000000 in
theorem cj_a147_0 : e2_idh 3 8 h_a147_0 = true := by decide +kernel
theorem cs_a147 (hen : en_ok) (l : Launch) (hh : e2_hand_a l) : e2_smOk l 157 s_a147 := by
  refine e2_conG (H := 154) (n := 2) (C := evd_59) (S := S_a147) (I := I_a147) (fuel := 4000) hen ei_59 (e2_fa ((cs_a38 hen l hh).mono (by decide)) (e2_fa (cs_a146 hen l hh) e2_fz)) (e2_fa ein_19 (e2_fa ein_20 (e2_fa ein_60 e2_fz))) (by decide) co_a147 fun M d _ hC hcall p e R s m args below meth c Q D cA A ads r0 ha hl0 => ?_
  have L_0 : e2_gdM M p l e R s m args below meth c Q D cA A ads r0 66 al_a147_0 [] E_a147_0 h_a147_0 := by
    refine e2_indL (u := 3) (j := 5) (lo := 2147483648) (hi := 2147483678) (b := 3) (dd := 0) hl0 (by decide) rfl rfl (Or.inr ⟨rfl, rfl⟩) rfl ci_a147_0 cj_a147_0 ?_
    intro r_0 k_0 hk_0 hp_0 hs_0 hn_0
    have hl_0 : r_0.length ≤ 4 := hs_0.len rfl
    have ha_0 := ha.ext hp_0
    exact e2_fromM hen ha_0 hcall (e2_cutA_ok (e2_fa (fun al st E h hc => hn_0 al st E h hc) e2_fz)) (hC []) (X := e2x_59) ex2_59 66 ck_a147_0
  have EN_0 := e2_entL (u := 3) (j := 5) (lo := 2147483648) (hi := 2147483678) hl0 rfl rfl rfl ci_a147_0 cj_a147_0 L_0
  exact e2_from hen ha hcall (e2_cutA_ok (e2_fa (fun al st E h hc => EN_0 al st E h hc) e2_fz)) (hC []) (X := e2x_59) ex2_59 0 ck_a147_e
/-! a148 X3_parseUnit -/
def as_a148 : List ev_V := [(2, 33, 0), (2, 30, 0), (0, 2, 0)]
def E_a148 : e2_E := [(2147483648, 2147583648, 0, 0), (2147483652, 2147483668, 1, 0), (2147483648, 2147485248, 2, 0)]
noncomputable def f_a148 : ev_H := (an651 : e2_Q8)
noncomputable def q_a148_0 : ev_H := (an651 : e2_Q8)
noncomputable def rs_a148 : e2_Rs := [((11, 2147483648, 2147483649), q_a148_0)]
noncomputable def s_a148 : e2_Sm := (62, as_a148, E_a148, f_a148, rs_a148)
noncomputable def S_a148 : List e2_Sm := [s_a38, s_a39, s_a147]
noncomputable def I_a148 : List e2_In := [(18, 2, e2x_18), (19, 2, e2x_19), (20, 2, e2x_20), (43, 2, e2x_43), (44, 3, e2x_44)]
set_option maxRecDepth 1000000 in
theorem ck_a148 : e2_run (e2_cal S_a148 I_a148 4000 2) (e2_fin rs_a148) e2x_62 (fun _ => false) (fun _ _ _ _ _ => false) 4000 (e2_seek e2x_62 0) (e2_al 7 as_a148) [] E_a148 f_a148 = true := by decide +kernel
set_option maxRecDepth 1000000 in
theorem co_a148 : e2_okSB E_a148.length as_a148 f_a148 rs_a148 = true := by decide +kernel
theorem cs_a148 (hen : en_ok) (l : Launch) (hh : e2_hand_a l) : e2_smOk l 160 s_a148 := e2_con0 (H := 157) (n := 2) (C := evd_62) (S := S_a148) (I := I_a148) (fuel := 4000) [] hen ei_62 (e2_fa ((cs_a38 hen l hh).mono (by decide)) (e2_fa ((cs_a39 hen l hh).mono (by decide)) (e2_fa (cs_a147 hen l hh) e2_fz))) (e2_fa ein_18 (e2_fa ein_19 (e2_fa ein_20 (e2_fa ein_43 (e2_fa ein_44 e2_fz))))) (by decide) co_a148 ex2_62 ck_a148
/-! a149 X3_parseLevel -/
def as_a149 : List ev_V := [(2, 33, 0), (2, 30, 0), (0, 5, 0), (0, 2, 0)]
def E_a149 : e2_E := [(2147483648, 2147583648, 0, 0), (2147483652, 2147483668, 1, 0), (2147483648, 2147485248, 2, 0)]
noncomputable def f_a149 : ev_H := (an651 : e2_Q8)
noncomputable def q_a149_0 : ev_H := (an651 : e2_Q8)
noncomputable def rs_a149 : e2_Rs := [((11, 2147483648, 2147483649), q_a149_0)]
noncomputable def s_a149 : e2_Sm := (59, as_a149, E_a149, f_a149, rs_a149)
noncomputable def S_a149 : List e2_Sm := [s_a148]
noncomputable def I_a149 : List e2_In := []
set_option maxRecDepth 1000000 in
theorem ck_a149 : e2_run (e2_cal S_a149 I_a149 4000 0) (e2_fin rs_a149) e2x_59 (fun _ => false) (fun _ _ _ _ _ => false) 4000 (e2_seek e2x_59 0) (e2_al 7 as_a149) [] E_a149 f_a149 = true := by decide +kernel
set_option maxRecDepth 1000000 in
theorem co_a149 : e2_okSB E_a149.length as_a149 f_a149 rs_a149 = true := by decide +kernel
theorem cs_a149 (hen : en_ok) (l : Launch) (hh : e2_hand_a l) : e2_smOk l 161 s_a149 := e2_con0 (H := 160) (n := 0) (C := evd_59) (S := S_a149) (I := I_a149) (fuel := 4000) [] hen ei_59 (e2_fa (cs_a148 hen l hh) e2_fz) e2_fz (by decide) co_a149 ex2_59 ck_a149
/-! a150 X3_parseLevel -/
def as_a150 : List ev_V := [(2, 33, 0), (2, 30, 0), (0, 4, 0), (0, 2, 0)]
def E_a150 : e2_E := [(2147483648, 2147583648, 0, 0), (2147483652, 2147483668, 1, 0), (2147483648, 2147485248, 2, 0)]
noncomputable def f_a150 : ev_H := (an651 : e2_Q8)
noncomputable def q_a150_0 : ev_H := (an651 : e2_Q8)
noncomputable def rs_a150 : e2_Rs := [((11, 2147483648, 2147483649), q_a150_0)]
noncomputable def s_a150 : e2_Sm := (59, as_a150, E_a150, f_a150, rs_a150)
noncomputable def S_a150 : List e2_Sm := [s_a38, s_a149]
noncomputable def I_a150 : List e2_In := [(19, 2, e2x_19), (20, 2, e2x_20), (60, 1, e2x_60)]
set_option maxRecDepth 1000000 in
theorem co_a150 : e2_okSB E_a150.length as_a150 f_a150 rs_a150 = true := by decide +kernel
def al_a150_0 : List ev_V := [(2, 33, 0), (2, 30, 0), (0, 4, 0), (0, 2, 0), (0, 30, 0), (1, 3, 4294967296), (9, 0, 0)]
def E_a150_0 : e2_E := [(2147483648, 2147583648, 0, 0), (2147483652, 2147483668, 1, 0), (2147483648, 2147485248, 2, 0), (2147483648, 2147483678, 3, 0)]
noncomputable def h_a150_0 : ev_H := (an651 : e2_Q8)
noncomputable def cl_a150_e : List (Nat × e2_S) := [(66, e2_cutL (al_a150_0.set 5 (11, 2147483648, 2147483678)) 3 (E_a150_0.take 3) h_a150_0)]
set_option maxRecDepth 1000000 in
theorem ck_a150_e : e2_run (e2_cal S_a150 I_a150 4000 2) (e2_fin rs_a150) e2x_59 (e2_bpL cl_a150_e) (e2_cutA cl_a150_e) 4000 (e2_seek e2x_59 0) (e2_al 7 as_a150) [] E_a150 f_a150 = true := by decide +kernel
noncomputable def cl_a150_0 : List (Nat × e2_S) := [(66, e2_cutL (al_a150_0.set 5 (13, 11, 2147483678)) 3 (E_a150_0.take 3) h_a150_0)]
set_option maxRecDepth 1000000 in
theorem ck_a150_0 : e2_runM (e2_cal S_a150 I_a150 4000 2) (e2_fin rs_a150) e2x_59 (e2_bpL cl_a150_0) (e2_cutA cl_a150_0) 4000 (e2_seek e2x_59 66) al_a150_0 [] E_a150_0 h_a150_0 = true := by decide +kernel
set_option maxRecDepth 1000000 in
theorem ci_a150_0 : e2_idl 3 (al_a150_0.set 5 (9, 0, 0)) = true := by decide +kernel
set_option maxRecDepth 1000000 in
theorem cj_a150_0 : e2_idh 3 8 h_a150_0 = true := by decide +kernel
theorem cs_a150 (hen : en_ok) (l : Launch) (hh : e2_hand_a l) : e2_smOk l 164 s_a150 := by
  refine e2_conG (H := 161) (n := 2) (C := evd_59) (S := S_a150) (I := I_a150) (fuel := 4000) hen ei_59 (e2_fa ((cs_a38 hen l hh).mono (by decide)) (e2_fa (cs_a149 hen l hh) e2_fz)) (e2_fa ein_19 (e2_fa ein_20 (e2_fa ein_60 e2_fz))) (by decide) co_a150 fun M d _ hC hcall p e R s m args below meth c Q D cA A ads r0 ha hl0 => ?_
  have L_0 : e2_gdM M p l e R s m args below meth c Q D cA A ads r0 66 al_a150_0 [] E_a150_0 h_a150_0 := by
    refine e2_indL (u := 3) (j := 5) (lo := 2147483648) (hi := 2147483678) (b := 3) (dd := 0) hl0 (by decide) rfl rfl (Or.inr ⟨rfl, rfl⟩) rfl ci_a150_0 cj_a150_0 ?_
    intro r_0 k_0 hk_0 hp_0 hs_0 hn_0
    have hl_0 : r_0.length ≤ 4 := hs_0.len rfl
    have ha_0 := ha.ext hp_0
    exact e2_fromM hen ha_0 hcall (e2_cutA_ok (e2_fa (fun al st E h hc => hn_0 al st E h hc) e2_fz)) (hC []) (X := e2x_59) ex2_59 66 ck_a150_0
  have EN_0 := e2_entL (u := 3) (j := 5) (lo := 2147483648) (hi := 2147483678) hl0 rfl rfl rfl ci_a150_0 cj_a150_0 L_0
  exact e2_from hen ha hcall (e2_cutA_ok (e2_fa (fun al st E h hc => EN_0 al st E h hc) e2_fz)) (hC []) (X := e2x_59) ex2_59 0 ck_a150_e
/-! a151 X3_parseLevel -/
def as_a151 : List ev_V := [(2, 33, 0), (2, 30, 0), (0, 3, 0), (0, 2, 0)]
def E_a151 : e2_E := [(2147483648, 2147583648, 0, 0), (2147483652, 2147483668, 1, 0), (2147483648, 2147485248, 2, 0)]
noncomputable def f_a151 : ev_H := (an651 : e2_Q8)
noncomputable def q_a151_0 : ev_H := (an651 : e2_Q8)
noncomputable def rs_a151 : e2_Rs := [((11, 2147483648, 2147483649), q_a151_0)]
noncomputable def s_a151 : e2_Sm := (59, as_a151, E_a151, f_a151, rs_a151)
noncomputable def S_a151 : List e2_Sm := [s_a38, s_a150]
noncomputable def I_a151 : List e2_In := [(19, 2, e2x_19), (20, 2, e2x_20), (60, 1, e2x_60)]
set_option maxRecDepth 1000000 in
theorem co_a151 : e2_okSB E_a151.length as_a151 f_a151 rs_a151 = true := by decide +kernel
def al_a151_0 : List ev_V := [(2, 33, 0), (2, 30, 0), (0, 3, 0), (0, 2, 0), (0, 30, 0), (1, 3, 4294967296), (9, 0, 0)]
def E_a151_0 : e2_E := [(2147483648, 2147583648, 0, 0), (2147483652, 2147483668, 1, 0), (2147483648, 2147485248, 2, 0), (2147483648, 2147483678, 3, 0)]
noncomputable def h_a151_0 : ev_H := (an651 : e2_Q8)
noncomputable def cl_a151_e : List (Nat × e2_S) := [(66, e2_cutL (al_a151_0.set 5 (11, 2147483648, 2147483678)) 3 (E_a151_0.take 3) h_a151_0)]
set_option maxRecDepth 1000000 in
theorem ck_a151_e : e2_run (e2_cal S_a151 I_a151 4000 2) (e2_fin rs_a151) e2x_59 (e2_bpL cl_a151_e) (e2_cutA cl_a151_e) 4000 (e2_seek e2x_59 0) (e2_al 7 as_a151) [] E_a151 f_a151 = true := by decide +kernel
noncomputable def cl_a151_0 : List (Nat × e2_S) := [(66, e2_cutL (al_a151_0.set 5 (13, 11, 2147483678)) 3 (E_a151_0.take 3) h_a151_0)]
set_option maxRecDepth 1000000 in
theorem ck_a151_0 : e2_runM (e2_cal S_a151 I_a151 4000 2) (e2_fin rs_a151) e2x_59 (e2_bpL cl_a151_0) (e2_cutA cl_a151_0) 4000 (e2_seek e2x_59 66) al_a151_0 [] E_a151_0 h_a151_0 = true := by decide +kernel
set_option maxRecDepth 1000000 in
theorem ci_a151_0 : e2_idl 3 (al_a151_0.set 5 (9, 0, 0)) = true := by decide +kernel
set_option maxRecDepth 1000000 in
theorem cj_a151_0 : e2_idh 3 8 h_a151_0 = true := by decide +kernel
theorem cs_a151 (hen : en_ok) (l : Launch) (hh : e2_hand_a l) : e2_smOk l 167 s_a151 := by
  refine e2_conG (H := 164) (n := 2) (C := evd_59) (S := S_a151) (I := I_a151) (fuel := 4000) hen ei_59 (e2_fa ((cs_a38 hen l hh).mono (by decide)) (e2_fa (cs_a150 hen l hh) e2_fz)) (e2_fa ein_19 (e2_fa ein_20 (e2_fa ein_60 e2_fz))) (by decide) co_a151 fun M d _ hC hcall p e R s m args below meth c Q D cA A ads r0 ha hl0 => ?_
  have L_0 : e2_gdM M p l e R s m args below meth c Q D cA A ads r0 66 al_a151_0 [] E_a151_0 h_a151_0 := by
    refine e2_indL (u := 3) (j := 5) (lo := 2147483648) (hi := 2147483678) (b := 3) (dd := 0) hl0 (by decide) rfl rfl (Or.inr ⟨rfl, rfl⟩) rfl ci_a151_0 cj_a151_0 ?_
    intro r_0 k_0 hk_0 hp_0 hs_0 hn_0
    have hl_0 : r_0.length ≤ 4 := hs_0.len rfl
    have ha_0 := ha.ext hp_0
    exact e2_fromM hen ha_0 hcall (e2_cutA_ok (e2_fa (fun al st E h hc => hn_0 al st E h hc) e2_fz)) (hC []) (X := e2x_59) ex2_59 66 ck_a151_0
  have EN_0 := e2_entL (u := 3) (j := 5) (lo := 2147483648) (hi := 2147483678) hl0 rfl rfl rfl ci_a151_0 cj_a151_0 L_0
  exact e2_from hen ha hcall (e2_cutA_ok (e2_fa (fun al st E h hc => EN_0 al st E h hc) e2_fz)) (hC []) (X := e2x_59) ex2_59 0 ck_a151_e
/-! a152 X3_parseNot -/
def as_a152 : List ev_V := [(2, 33, 0), (2, 30, 0), (0, 2, 0)]
def E_a152 : e2_E := [(2147483648, 2147583648, 0, 0), (2147483652, 2147483668, 1, 0), (2147483648, 2147485248, 2, 0)]
noncomputable def f_a152 : ev_H := (an651 : e2_Q8)
noncomputable def q_a152_0 : ev_H := (an651 : e2_Q8)
noncomputable def rs_a152 : e2_Rs := [((11, 2147483648, 2147483649), q_a152_0)]
noncomputable def s_a152 : e2_Sm := (61, as_a152, E_a152, f_a152, rs_a152)
noncomputable def S_a152 : List e2_Sm := [s_a38, s_a145]
noncomputable def I_a152 : List e2_In := [(19, 2, e2x_19), (20, 2, e2x_20)]
set_option maxRecDepth 1000000 in
theorem ck_a152 : e2_run (e2_cal S_a152 I_a152 4000 2) (e2_fin rs_a152) e2x_61 (fun _ => false) (fun _ _ _ _ _ => false) 4000 (e2_seek e2x_61 0) (e2_al 3 as_a152) [] E_a152 f_a152 = true := by decide +kernel
set_option maxRecDepth 1000000 in
theorem co_a152 : e2_okSB E_a152.length as_a152 f_a152 rs_a152 = true := by decide +kernel
theorem cs_a152 (hen : en_ok) (l : Launch) (hh : e2_hand_a l) : e2_smOk l 154 s_a152 := e2_con0 (H := 151) (n := 2) (C := evd_61) (S := S_a152) (I := I_a152) (fuel := 4000) [] hen ei_61 (e2_fa ((cs_a38 hen l hh).mono (by decide)) (e2_fa (cs_a145 hen l hh) e2_fz)) (e2_fa ein_19 (e2_fa ein_20 e2_fz)) (by decide) co_a152 ex2_61 ck_a152
/-! a153 X3_parseLevel -/
def as_a153 : List ev_V := [(2, 33, 0), (2, 30, 0), (0, 2, 0), (0, 2, 0)]
def E_a153 : e2_E := [(2147483648, 2147583648, 0, 0), (2147483652, 2147483668, 1, 0), (2147483648, 2147485248, 2, 0)]
noncomputable def f_a153 : ev_H := (an651 : e2_Q8)
noncomputable def q_a153_0 : ev_H := (an651 : e2_Q8)
noncomputable def rs_a153 : e2_Rs := [((11, 2147483648, 2147483649), q_a153_0)]
noncomputable def s_a153 : e2_Sm := (59, as_a153, E_a153, f_a153, rs_a153)
noncomputable def S_a153 : List e2_Sm := [s_a38, s_a151, s_a152]
noncomputable def I_a153 : List e2_In := [(19, 2, e2x_19), (20, 2, e2x_20), (60, 1, e2x_60)]
set_option maxRecDepth 1000000 in
theorem co_a153 : e2_okSB E_a153.length as_a153 f_a153 rs_a153 = true := by decide +kernel
def al_a153_0 : List ev_V := [(2, 33, 0), (2, 30, 0), (0, 2, 0), (0, 2, 0), (0, 1, 0), (1, 3, 4294967296), (9, 0, 0)]
def E_a153_0 : e2_E := [(2147483648, 2147583648, 0, 0), (2147483652, 2147483668, 1, 0), (2147483648, 2147485248, 2, 0), (2147483648, 2147483649, 3, 0)]
noncomputable def h_a153_0 : ev_H := (an651 : e2_Q8)
noncomputable def cl_a153_e : List (Nat × e2_S) := [(66, e2_cutL (al_a153_0.set 5 (11, 2147483648, 2147483649)) 3 (E_a153_0.take 3) h_a153_0)]
set_option maxRecDepth 1000000 in
theorem ck_a153_e : e2_run (e2_cal S_a153 I_a153 4000 2) (e2_fin rs_a153) e2x_59 (e2_bpL cl_a153_e) (e2_cutA cl_a153_e) 4000 (e2_seek e2x_59 0) (e2_al 7 as_a153) [] E_a153 f_a153 = true := by decide +kernel
noncomputable def cl_a153_0 : List (Nat × e2_S) := [(66, e2_cutL (al_a153_0.set 5 (13, 11, 2147483649)) 3 (E_a153_0.take 3) h_a153_0)]
set_option maxRecDepth 1000000 in
theorem ck_a153_0 : e2_runM (e2_cal S_a153 I_a153 4000 2) (e2_fin rs_a153) e2x_59 (e2_bpL cl_a153_0) (e2_cutA cl_a153_0) 4000 (e2_seek e2x_59 66) al_a153_0 [] E_a153_0 h_a153_0 = true := by decide +kernel
set_option maxRecDepth 1000000 in
theorem ci_a153_0 : e2_idl 3 (al_a153_0.set 5 (9, 0, 0)) = true := by decide +kernel
set_option maxRecDepth 1000000 in
theorem cj_a153_0 : e2_idh 3 8 h_a153_0 = true := by decide +kernel
theorem cs_a153 (hen : en_ok) (l : Launch) (hh : e2_hand_a l) : e2_smOk l 170 s_a153 := by
  refine e2_conG (H := 167) (n := 2) (C := evd_59) (S := S_a153) (I := I_a153) (fuel := 4000) hen ei_59 (e2_fa ((cs_a38 hen l hh).mono (by decide)) (e2_fa (cs_a151 hen l hh) (e2_fa ((cs_a152 hen l hh).mono (by decide)) e2_fz))) (e2_fa ein_19 (e2_fa ein_20 (e2_fa ein_60 e2_fz))) (by decide) co_a153 fun M d _ hC hcall p e R s m args below meth c Q D cA A ads r0 ha hl0 => ?_
  have L_0 : e2_gdM M p l e R s m args below meth c Q D cA A ads r0 66 al_a153_0 [] E_a153_0 h_a153_0 := by
    refine e2_indL (u := 3) (j := 5) (lo := 2147483648) (hi := 2147483649) (b := 3) (dd := 0) hl0 (by decide) rfl rfl (Or.inr ⟨rfl, rfl⟩) rfl ci_a153_0 cj_a153_0 ?_
    intro r_0 k_0 hk_0 hp_0 hs_0 hn_0
    have hl_0 : r_0.length ≤ 4 := hs_0.len rfl
    have ha_0 := ha.ext hp_0
    exact e2_fromM hen ha_0 hcall (e2_cutA_ok (e2_fa (fun al st E h hc => hn_0 al st E h hc) e2_fz)) (hC []) (X := e2x_59) ex2_59 66 ck_a153_0
  have EN_0 := e2_entL (u := 3) (j := 5) (lo := 2147483648) (hi := 2147483649) hl0 rfl rfl rfl ci_a153_0 cj_a153_0 L_0
  exact e2_from hen ha hcall (e2_cutA_ok (e2_fa (fun al st E h hc => EN_0 al st E h hc) e2_fz)) (hC []) (X := e2x_59) ex2_59 0 ck_a153_e
/-! a154 X3_parseLevel -/
def as_a154 : List ev_V := [(2, 33, 0), (2, 30, 0), (0, 1, 0), (0, 2, 0)]
def E_a154 : e2_E := [(2147483648, 2147583648, 0, 0), (2147483652, 2147483668, 1, 0), (2147483648, 2147485248, 2, 0)]
noncomputable def f_a154 : ev_H := (an651 : e2_Q8)
noncomputable def q_a154_0 : ev_H := (an651 : e2_Q8)
noncomputable def rs_a154 : e2_Rs := [((11, 2147483648, 2147483649), q_a154_0)]
noncomputable def s_a154 : e2_Sm := (59, as_a154, E_a154, f_a154, rs_a154)
noncomputable def S_a154 : List e2_Sm := [s_a38, s_a153]
noncomputable def I_a154 : List e2_In := [(19, 2, e2x_19), (20, 2, e2x_20), (60, 1, e2x_60)]
set_option maxRecDepth 1000000 in
theorem co_a154 : e2_okSB E_a154.length as_a154 f_a154 rs_a154 = true := by decide +kernel
def al_a154_0 : List ev_V := [(2, 33, 0), (2, 30, 0), (0, 1, 0), (0, 2, 0), (0, 30, 0), (1, 3, 4294967296), (9, 0, 0)]
def E_a154_0 : e2_E := [(2147483648, 2147583648, 0, 0), (2147483652, 2147483668, 1, 0), (2147483648, 2147485248, 2, 0), (2147483648, 2147483678, 3, 0)]
noncomputable def h_a154_0 : ev_H := (an651 : e2_Q8)
noncomputable def cl_a154_e : List (Nat × e2_S) := [(66, e2_cutL (al_a154_0.set 5 (11, 2147483648, 2147483678)) 3 (E_a154_0.take 3) h_a154_0)]
set_option maxRecDepth 1000000 in
theorem ck_a154_e : e2_run (e2_cal S_a154 I_a154 4000 2) (e2_fin rs_a154) e2x_59 (e2_bpL cl_a154_e) (e2_cutA cl_a154_e) 4000 (e2_seek e2x_59 0) (e2_al 7 as_a154) [] E_a154 f_a154 = true := by decide +kernel
noncomputable def cl_a154_0 : List (Nat × e2_S) := [(66, e2_cutL (al_a154_0.set 5 (13, 11, 2147483678)) 3 (E_a154_0.take 3) h_a154_0)]
set_option maxRecDepth 1000000 in
theorem ck_a154_0 : e2_runM (e2_cal S_a154 I_a154 4000 2) (e2_fin rs_a154) e2x_59 (e2_bpL cl_a154_0) (e2_cutA cl_a154_0) 4000 (e2_seek e2x_59 66) al_a154_0 [] E_a154_0 h_a154_0 = true := by decide +kernel
set_option maxRecDepth 1000000 in
theorem ci_a154_0 : e2_idl 3 (al_a154_0.set 5 (9, 0, 0)) = true := by decide +kernel
set_option maxRecDepth 1000000 in
theorem cj_a154_0 : e2_idh 3 8 h_a154_0 = true := by decide +kernel
theorem cs_a154 (hen : en_ok) (l : Launch) (hh : e2_hand_a l) : e2_smOk l 173 s_a154 := by
  refine e2_conG (H := 170) (n := 2) (C := evd_59) (S := S_a154) (I := I_a154) (fuel := 4000) hen ei_59 (e2_fa ((cs_a38 hen l hh).mono (by decide)) (e2_fa (cs_a153 hen l hh) e2_fz)) (e2_fa ein_19 (e2_fa ein_20 (e2_fa ein_60 e2_fz))) (by decide) co_a154 fun M d _ hC hcall p e R s m args below meth c Q D cA A ads r0 ha hl0 => ?_
  have L_0 : e2_gdM M p l e R s m args below meth c Q D cA A ads r0 66 al_a154_0 [] E_a154_0 h_a154_0 := by
    refine e2_indL (u := 3) (j := 5) (lo := 2147483648) (hi := 2147483678) (b := 3) (dd := 0) hl0 (by decide) rfl rfl (Or.inr ⟨rfl, rfl⟩) rfl ci_a154_0 cj_a154_0 ?_
    intro r_0 k_0 hk_0 hp_0 hs_0 hn_0
    have hl_0 : r_0.length ≤ 4 := hs_0.len rfl
    have ha_0 := ha.ext hp_0
    exact e2_fromM hen ha_0 hcall (e2_cutA_ok (e2_fa (fun al st E h hc => hn_0 al st E h hc) e2_fz)) (hC []) (X := e2x_59) ex2_59 66 ck_a154_0
  have EN_0 := e2_entL (u := 3) (j := 5) (lo := 2147483648) (hi := 2147483678) hl0 rfl rfl rfl ci_a154_0 cj_a154_0 L_0
  exact e2_from hen ha hcall (e2_cutA_ok (e2_fa (fun al st E h hc => EN_0 al st E h hc) e2_fz)) (hC []) (X := e2x_59) ex2_59 0 ck_a154_e
/-! a155 X3_parseLevel -/
def as_a155 : List ev_V := [(2, 33, 0), (2, 30, 0), (0, 0, 0), (0, 2, 0)]
def E_a155 : e2_E := [(2147483648, 2147583648, 0, 0), (2147483652, 2147483668, 1, 0), (2147483648, 2147485248, 2, 0)]
noncomputable def f_a155 : ev_H := (an651 : e2_Q8)
noncomputable def q_a155_0 : ev_H := (an651 : e2_Q8)
noncomputable def rs_a155 : e2_Rs := [((11, 2147483648, 2147483649), q_a155_0)]
noncomputable def s_a155 : e2_Sm := (59, as_a155, E_a155, f_a155, rs_a155)
noncomputable def S_a155 : List e2_Sm := [s_a38, s_a154]
noncomputable def I_a155 : List e2_In := [(19, 2, e2x_19), (20, 2, e2x_20), (60, 1, e2x_60)]
set_option maxRecDepth 1000000 in
theorem co_a155 : e2_okSB E_a155.length as_a155 f_a155 rs_a155 = true := by decide +kernel
def al_a155_0 : List ev_V := [(2, 33, 0), (2, 30, 0), (0, 0, 0), (0, 2, 0), (0, 30, 0), (1, 3, 4294967296), (9, 0, 0)]
def E_a155_0 : e2_E := [(2147483648, 2147583648, 0, 0), (2147483652, 2147483668, 1, 0), (2147483648, 2147485248, 2, 0), (2147483648, 2147483678, 3, 0)]
noncomputable def h_a155_0 : ev_H := (an651 : e2_Q8)
noncomputable def cl_a155_e : List (Nat × e2_S) := [(66, e2_cutL (al_a155_0.set 5 (11, 2147483648, 2147483678)) 3 (E_a155_0.take 3) h_a155_0)]
set_option maxRecDepth 1000000 in
theorem ck_a155_e : e2_run (e2_cal S_a155 I_a155 4000 2) (e2_fin rs_a155) e2x_59 (e2_bpL cl_a155_e) (e2_cutA cl_a155_e) 4000 (e2_seek e2x_59 0) (e2_al 7 as_a155) [] E_a155 f_a155 = true := by decide +kernel
noncomputable def cl_a155_0 : List (Nat × e2_S) := [(66, e2_cutL (al_a155_0.set 5 (13, 11, 2147483678)) 3 (E_a155_0.take 3) h_a155_0)]
set_option maxRecDepth 1000000 in
theorem ck_a155_0 : e2_runM (e2_cal S_a155 I_a155 4000 2) (e2_fin rs_a155) e2x_59 (e2_bpL cl_a155_0) (e2_cutA cl_a155_0) 4000 (e2_seek e2x_59 66) al_a155_0 [] E_a155_0 h_a155_0 = true := by decide +kernel
set_option maxRecDepth 1000000 in
theorem ci_a155_0 : e2_idl 3 (al_a155_0.set 5 (9, 0, 0)) = true := by decide +kernel
set_option maxRecDepth 1000000 in
theorem cj_a155_0 : e2_idh 3 8 h_a155_0 = true := by decide +kernel
theorem cs_a155 (hen : en_ok) (l : Launch) (hh : e2_hand_a l) : e2_smOk l 176 s_a155 := by
  refine e2_conG (H := 173) (n := 2) (C := evd_59) (S := S_a155) (I := I_a155) (fuel := 4000) hen ei_59 (e2_fa ((cs_a38 hen l hh).mono (by decide)) (e2_fa (cs_a154 hen l hh) e2_fz)) (e2_fa ein_19 (e2_fa ein_20 (e2_fa ein_60 e2_fz))) (by decide) co_a155 fun M d _ hC hcall p e R s m args below meth c Q D cA A ads r0 ha hl0 => ?_
  have L_0 : e2_gdM M p l e R s m args below meth c Q D cA A ads r0 66 al_a155_0 [] E_a155_0 h_a155_0 := by
    refine e2_indL (u := 3) (j := 5) (lo := 2147483648) (hi := 2147483678) (b := 3) (dd := 0) hl0 (by decide) rfl rfl (Or.inr ⟨rfl, rfl⟩) rfl ci_a155_0 cj_a155_0 ?_
    intro r_0 k_0 hk_0 hp_0 hs_0 hn_0
    have hl_0 : r_0.length ≤ 4 := hs_0.len rfl
    have ha_0 := ha.ext hp_0
    exact e2_fromM hen ha_0 hcall (e2_cutA_ok (e2_fa (fun al st E h hc => hn_0 al st E h hc) e2_fz)) (hC []) (X := e2x_59) ex2_59 66 ck_a155_0
  have EN_0 := e2_entL (u := 3) (j := 5) (lo := 2147483648) (hi := 2147483678) hl0 rfl rfl rfl ci_a155_0 cj_a155_0 L_0
  exact e2_from hen ha hcall (e2_cutA_ok (e2_fa (fun al st E h hc => EN_0 al st E h hc) e2_fz)) (hC []) (X := e2x_59) ex2_59 0 ck_a155_e
/-! a156 X3_parseUnit -/
def as_a156 : List ev_V := [(2, 33, 0), (2, 30, 0), (0, 1, 0)]
def E_a156 : e2_E := [(2147483648, 2147583648, 0, 0), (2147483652, 2147483668, 1, 0), (2147483648, 2147485248, 2, 0)]
noncomputable def f_a156 : ev_H := (an651 : e2_Q8)
noncomputable def q_a156_0 : ev_H := (an651 : e2_Q8)
noncomputable def rs_a156 : e2_Rs := [((11, 2147483648, 2147483649), q_a156_0)]
noncomputable def s_a156 : e2_Sm := (62, as_a156, E_a156, f_a156, rs_a156)
noncomputable def S_a156 : List e2_Sm := [s_a38, s_a39, s_a155]
noncomputable def I_a156 : List e2_In := [(18, 2, e2x_18), (19, 2, e2x_19), (20, 2, e2x_20), (43, 2, e2x_43), (44, 3, e2x_44)]
set_option maxRecDepth 1000000 in
theorem ck_a156 : e2_run (e2_cal S_a156 I_a156 4000 2) (e2_fin rs_a156) e2x_62 (fun _ => false) (fun _ _ _ _ _ => false) 4000 (e2_seek e2x_62 0) (e2_al 7 as_a156) [] E_a156 f_a156 = true := by decide +kernel
set_option maxRecDepth 1000000 in
theorem co_a156 : e2_okSB E_a156.length as_a156 f_a156 rs_a156 = true := by decide +kernel
theorem cs_a156 (hen : en_ok) (l : Launch) (hh : e2_hand_a l) : e2_smOk l 179 s_a156 := e2_con0 (H := 176) (n := 2) (C := evd_62) (S := S_a156) (I := I_a156) (fuel := 4000) [] hen ei_62 (e2_fa ((cs_a38 hen l hh).mono (by decide)) (e2_fa ((cs_a39 hen l hh).mono (by decide)) (e2_fa (cs_a155 hen l hh) e2_fz))) (e2_fa ein_18 (e2_fa ein_19 (e2_fa ein_20 (e2_fa ein_43 (e2_fa ein_44 e2_fz))))) (by decide) co_a156 ex2_62 ck_a156
/-! a157 X3_parseLevel -/
def as_a157 : List ev_V := [(2, 33, 0), (2, 30, 0), (0, 5, 0), (0, 1, 0)]
def E_a157 : e2_E := [(2147483648, 2147583648, 0, 0), (2147483652, 2147483668, 1, 0), (2147483648, 2147485248, 2, 0)]
noncomputable def f_a157 : ev_H := (an651 : e2_Q8)
noncomputable def q_a157_0 : ev_H := (an651 : e2_Q8)
noncomputable def rs_a157 : e2_Rs := [((11, 2147483648, 2147483649), q_a157_0)]
noncomputable def s_a157 : e2_Sm := (59, as_a157, E_a157, f_a157, rs_a157)
noncomputable def S_a157 : List e2_Sm := [s_a156]
noncomputable def I_a157 : List e2_In := []
set_option maxRecDepth 1000000 in
theorem ck_a157 : e2_run (e2_cal S_a157 I_a157 4000 0) (e2_fin rs_a157) e2x_59 (fun _ => false) (fun _ _ _ _ _ => false) 4000 (e2_seek e2x_59 0) (e2_al 7 as_a157) [] E_a157 f_a157 = true := by decide +kernel
set_option maxRecDepth 1000000 in
theorem co_a157 : e2_okSB E_a157.length as_a157 f_a157 rs_a157 = true := by decide +kernel
theorem cs_a157 (hen : en_ok) (l : Launch) (hh : e2_hand_a l) : e2_smOk l 180 s_a157 := e2_con0 (H := 179) (n := 0) (C := evd_59) (S := S_a157) (I := I_a157) (fuel := 4000) [] hen ei_59 (e2_fa (cs_a156 hen l hh) e2_fz) e2_fz (by decide) co_a157 ex2_59 ck_a157
/-! a158 X3_parseLevel -/
def as_a158 : List ev_V := [(2, 33, 0), (2, 30, 0), (0, 4, 0), (0, 1, 0)]
def E_a158 : e2_E := [(2147483648, 2147583648, 0, 0), (2147483652, 2147483668, 1, 0), (2147483648, 2147485248, 2, 0)]
noncomputable def f_a158 : ev_H := (an651 : e2_Q8)
noncomputable def q_a158_0 : ev_H := (an651 : e2_Q8)
noncomputable def rs_a158 : e2_Rs := [((11, 2147483648, 2147483649), q_a158_0)]
noncomputable def s_a158 : e2_Sm := (59, as_a158, E_a158, f_a158, rs_a158)
noncomputable def S_a158 : List e2_Sm := [s_a38, s_a157]
noncomputable def I_a158 : List e2_In := [(19, 2, e2x_19), (20, 2, e2x_20), (60, 1, e2x_60)]
set_option maxRecDepth 1000000 in
theorem co_a158 : e2_okSB E_a158.length as_a158 f_a158 rs_a158 = true := by decide +kernel
def al_a158_0 : List ev_V := [(2, 33, 0), (2, 30, 0), (0, 4, 0), (0, 1, 0), (0, 30, 0), (1, 3, 4294967296), (9, 0, 0)]
def E_a158_0 : e2_E := [(2147483648, 2147583648, 0, 0), (2147483652, 2147483668, 1, 0), (2147483648, 2147485248, 2, 0), (2147483648, 2147483678, 3, 0)]
noncomputable def h_a158_0 : ev_H := (an651 : e2_Q8)
noncomputable def cl_a158_e : List (Nat × e2_S) := [(66, e2_cutL (al_a158_0.set 5 (11, 2147483648, 2147483678)) 3 (E_a158_0.take 3) h_a158_0)]
set_option maxRecDepth 1000000 in
theorem ck_a158_e : e2_run (e2_cal S_a158 I_a158 4000 2) (e2_fin rs_a158) e2x_59 (e2_bpL cl_a158_e) (e2_cutA cl_a158_e) 4000 (e2_seek e2x_59 0) (e2_al 7 as_a158) [] E_a158 f_a158 = true := by decide +kernel
noncomputable def cl_a158_0 : List (Nat × e2_S) := [(66, e2_cutL (al_a158_0.set 5 (13, 11, 2147483678)) 3 (E_a158_0.take 3) h_a158_0)]
set_option maxRecDepth 1000000 in
theorem ck_a158_0 : e2_runM (e2_cal S_a158 I_a158 4000 2) (e2_fin rs_a158) e2x_59 (e2_bpL cl_a158_0) (e2_cutA cl_a158_0) 4000 (e2_seek e2x_59 66) al_a158_0 [] E_a158_0 h_a158_0 = true := by decide +kernel
set_option maxRecDepth 1000000 in
theorem ci_a158_0 : e2_idl 3 (al_a158_0.set 5 (9, 0, 0)) = true := by decide +kernel
set_option maxRecDepth 1000000 in
theorem cj_a158_0 : e2_idh 3 8 h_a158_0 = true := by decide +kernel
theorem cs_a158 (hen : en_ok) (l : Launch) (hh : e2_hand_a l) : e2_smOk l 183 s_a158 := by
  refine e2_conG (H := 180) (n := 2) (C := evd_59) (S := S_a158) (I := I_a158) (fuel := 4000) hen ei_59 (e2_fa ((cs_a38 hen l hh).mono (by decide)) (e2_fa (cs_a157 hen l hh) e2_fz)) (e2_fa ein_19 (e2_fa ein_20 (e2_fa ein_60 e2_fz))) (by decide) co_a158 fun M d _ hC hcall p e R s m args below meth c Q D cA A ads r0 ha hl0 => ?_
  have L_0 : e2_gdM M p l e R s m args below meth c Q D cA A ads r0 66 al_a158_0 [] E_a158_0 h_a158_0 := by
    refine e2_indL (u := 3) (j := 5) (lo := 2147483648) (hi := 2147483678) (b := 3) (dd := 0) hl0 (by decide) rfl rfl (Or.inr ⟨rfl, rfl⟩) rfl ci_a158_0 cj_a158_0 ?_
    intro r_0 k_0 hk_0 hp_0 hs_0 hn_0
    have hl_0 : r_0.length ≤ 4 := hs_0.len rfl
    have ha_0 := ha.ext hp_0
    exact e2_fromM hen ha_0 hcall (e2_cutA_ok (e2_fa (fun al st E h hc => hn_0 al st E h hc) e2_fz)) (hC []) (X := e2x_59) ex2_59 66 ck_a158_0
  have EN_0 := e2_entL (u := 3) (j := 5) (lo := 2147483648) (hi := 2147483678) hl0 rfl rfl rfl ci_a158_0 cj_a158_0 L_0
  exact e2_from hen ha hcall (e2_cutA_ok (e2_fa (fun al st E h hc => EN_0 al st E h hc) e2_fz)) (hC []) (X := e2x_59) ex2_59 0 ck_a158_e
/-! a159 X3_parseLevel -/
def as_a159 : List ev_V := [(2, 33, 0), (2, 30, 0), (0, 3, 0), (0, 1, 0)]
def E_a159 : e2_E := [(2147483648, 2147583648, 0, 0), (2147483652, 2147483668, 1, 0), (2147483648, 2147485248, 2, 0)]
noncomputable def f_a159 : ev_H := (an651 : e2_Q8)
noncomputable def q_a159_0 : ev_H := (an651 : e2_Q8)
noncomputable def rs_a159 : e2_Rs := [((11, 2147483648, 2147483649), q_a159_0)]
noncomputable def s_a159 : e2_Sm := (59, as_a159, E_a159, f_a159, rs_a159)
noncomputable def S_a159 : List e2_Sm := [s_a38, s_a158]
noncomputable def I_a159 : List e2_In := [(19, 2, e2x_19), (20, 2, e2x_20), (60, 1, e2x_60)]
set_option maxRecDepth 1000000 in
theorem co_a159 : e2_okSB E_a159.length as_a159 f_a159 rs_a159 = true := by decide +kernel
def al_a159_0 : List ev_V := [(2, 33, 0), (2, 30, 0), (0, 3, 0), (0, 1, 0), (0, 30, 0), (1, 3, 4294967296), (9, 0, 0)]
def E_a159_0 : e2_E := [(2147483648, 2147583648, 0, 0), (2147483652, 2147483668, 1, 0), (2147483648, 2147485248, 2, 0), (2147483648, 2147483678, 3, 0)]
noncomputable def h_a159_0 : ev_H := (an651 : e2_Q8)
noncomputable def cl_a159_e : List (Nat × e2_S) := [(66, e2_cutL (al_a159_0.set 5 (11, 2147483648, 2147483678)) 3 (E_a159_0.take 3) h_a159_0)]
set_option maxRecDepth 1000000 in
theorem ck_a159_e : e2_run (e2_cal S_a159 I_a159 4000 2) (e2_fin rs_a159) e2x_59 (e2_bpL cl_a159_e) (e2_cutA cl_a159_e) 4000 (e2_seek e2x_59 0) (e2_al 7 as_a159) [] E_a159 f_a159 = true := by decide +kernel
noncomputable def cl_a159_0 : List (Nat × e2_S) := [(66, e2_cutL (al_a159_0.set 5 (13, 11, 2147483678)) 3 (E_a159_0.take 3) h_a159_0)]
set_option maxRecDepth 1000000 in
theorem ck_a159_0 : e2_runM (e2_cal S_a159 I_a159 4000 2) (e2_fin rs_a159) e2x_59 (e2_bpL cl_a159_0) (e2_cutA cl_a159_0) 4000 (e2_seek e2x_59 66) al_a159_0 [] E_a159_0 h_a159_0 = true := by decide +kernel
set_option maxRecDepth 1000000 in
theorem ci_a159_0 : e2_idl 3 (al_a159_0.set 5 (9, 0, 0)) = true := by decide +kernel
set_option maxRecDepth 1000000 in
theorem cj_a159_0 : e2_idh 3 8 h_a159_0 = true := by decide +kernel
theorem cs_a159 (hen : en_ok) (l : Launch) (hh : e2_hand_a l) : e2_smOk l 186 s_a159 := by
  refine e2_conG (H := 183) (n := 2) (C := evd_59) (S := S_a159) (I := I_a159) (fuel := 4000) hen ei_59 (e2_fa ((cs_a38 hen l hh).mono (by decide)) (e2_fa (cs_a158 hen l hh) e2_fz)) (e2_fa ein_19 (e2_fa ein_20 (e2_fa ein_60 e2_fz))) (by decide) co_a159 fun M d _ hC hcall p e R s m args below meth c Q D cA A ads r0 ha hl0 => ?_
  have L_0 : e2_gdM M p l e R s m args below meth c Q D cA A ads r0 66 al_a159_0 [] E_a159_0 h_a159_0 := by
    refine e2_indL (u := 3) (j := 5) (lo := 2147483648) (hi := 2147483678) (b := 3) (dd := 0) hl0 (by decide) rfl rfl (Or.inr ⟨rfl, rfl⟩) rfl ci_a159_0 cj_a159_0 ?_
    intro r_0 k_0 hk_0 hp_0 hs_0 hn_0
    have hl_0 : r_0.length ≤ 4 := hs_0.len rfl
    have ha_0 := ha.ext hp_0
    exact e2_fromM hen ha_0 hcall (e2_cutA_ok (e2_fa (fun al st E h hc => hn_0 al st E h hc) e2_fz)) (hC []) (X := e2x_59) ex2_59 66 ck_a159_0
  have EN_0 := e2_entL (u := 3) (j := 5) (lo := 2147483648) (hi := 2147483678) hl0 rfl rfl rfl ci_a159_0 cj_a159_0 L_0
  exact e2_from hen ha hcall (e2_cutA_ok (e2_fa (fun al st E h hc => EN_0 al st E h hc) e2_fz)) (hC []) (X := e2x_59) ex2_59 0 ck_a159_e
/-! a160 X3_parseNot -/
def as_a160 : List ev_V := [(2, 33, 0), (2, 30, 0), (0, 1, 0)]
def E_a160 : e2_E := [(2147483648, 2147583648, 0, 0), (2147483652, 2147483668, 1, 0), (2147483648, 2147485248, 2, 0)]
noncomputable def f_a160 : ev_H := (an651 : e2_Q8)
noncomputable def q_a160_0 : ev_H := (an651 : e2_Q8)
noncomputable def rs_a160 : e2_Rs := [((11, 2147483648, 2147483649), q_a160_0)]
noncomputable def s_a160 : e2_Sm := (61, as_a160, E_a160, f_a160, rs_a160)
noncomputable def S_a160 : List e2_Sm := [s_a38, s_a153]
noncomputable def I_a160 : List e2_In := [(19, 2, e2x_19), (20, 2, e2x_20)]
set_option maxRecDepth 1000000 in
theorem ck_a160 : e2_run (e2_cal S_a160 I_a160 4000 2) (e2_fin rs_a160) e2x_61 (fun _ => false) (fun _ _ _ _ _ => false) 4000 (e2_seek e2x_61 0) (e2_al 3 as_a160) [] E_a160 f_a160 = true := by decide +kernel
set_option maxRecDepth 1000000 in
theorem co_a160 : e2_okSB E_a160.length as_a160 f_a160 rs_a160 = true := by decide +kernel
theorem cs_a160 (hen : en_ok) (l : Launch) (hh : e2_hand_a l) : e2_smOk l 173 s_a160 := e2_con0 (H := 170) (n := 2) (C := evd_61) (S := S_a160) (I := I_a160) (fuel := 4000) [] hen ei_61 (e2_fa ((cs_a38 hen l hh).mono (by decide)) (e2_fa (cs_a153 hen l hh) e2_fz)) (e2_fa ein_19 (e2_fa ein_20 e2_fz)) (by decide) co_a160 ex2_61 ck_a160
/-! a161 X3_parseLevel -/
def as_a161 : List ev_V := [(2, 33, 0), (2, 30, 0), (0, 2, 0), (0, 1, 0)]
def E_a161 : e2_E := [(2147483648, 2147583648, 0, 0), (2147483652, 2147483668, 1, 0), (2147483648, 2147485248, 2, 0)]
noncomputable def f_a161 : ev_H := (an651 : e2_Q8)
noncomputable def q_a161_0 : ev_H := (an651 : e2_Q8)
noncomputable def rs_a161 : e2_Rs := [((11, 2147483648, 2147483649), q_a161_0)]
noncomputable def s_a161 : e2_Sm := (59, as_a161, E_a161, f_a161, rs_a161)
noncomputable def S_a161 : List e2_Sm := [s_a38, s_a159, s_a160]
noncomputable def I_a161 : List e2_In := [(19, 2, e2x_19), (20, 2, e2x_20), (60, 1, e2x_60)]
set_option maxRecDepth 1000000 in
theorem co_a161 : e2_okSB E_a161.length as_a161 f_a161 rs_a161 = true := by decide +kernel
def al_a161_0 : List ev_V := [(2, 33, 0), (2, 30, 0), (0, 2, 0), (0, 1, 0), (0, 1, 0), (1, 3, 4294967296), (9, 0, 0)]
def E_a161_0 : e2_E := [(2147483648, 2147583648, 0, 0), (2147483652, 2147483668, 1, 0), (2147483648, 2147485248, 2, 0), (2147483648, 2147483649, 3, 0)]
noncomputable def h_a161_0 : ev_H := (an651 : e2_Q8)
noncomputable def cl_a161_e : List (Nat × e2_S) := [(66, e2_cutL (al_a161_0.set 5 (11, 2147483648, 2147483649)) 3 (E_a161_0.take 3) h_a161_0)]
set_option maxRecDepth 1000000 in
theorem ck_a161_e : e2_run (e2_cal S_a161 I_a161 4000 2) (e2_fin rs_a161) e2x_59 (e2_bpL cl_a161_e) (e2_cutA cl_a161_e) 4000 (e2_seek e2x_59 0) (e2_al 7 as_a161) [] E_a161 f_a161 = true := by decide +kernel
noncomputable def cl_a161_0 : List (Nat × e2_S) := [(66, e2_cutL (al_a161_0.set 5 (13, 11, 2147483649)) 3 (E_a161_0.take 3) h_a161_0)]
set_option maxRecDepth 1000000 in
theorem ck_a161_0 : e2_runM (e2_cal S_a161 I_a161 4000 2) (e2_fin rs_a161) e2x_59 (e2_bpL cl_a161_0) (e2_cutA cl_a161_0) 4000 (e2_seek e2x_59 66) al_a161_0 [] E_a161_0 h_a161_0 = true := by decide +kernel
set_option maxRecDepth 1000000 in
theorem ci_a161_0 : e2_idl 3 (al_a161_0.set 5 (9, 0, 0)) = true := by decide +kernel
set_option maxRecDepth 1000000 in
theorem cj_a161_0 : e2_idh 3 8 h_a161_0 = true := by decide +kernel
theorem cs_a161 (hen : en_ok) (l : Launch) (hh : e2_hand_a l) : e2_smOk l 189 s_a161 := by
  refine e2_conG (H := 186) (n := 2) (C := evd_59) (S := S_a161) (I := I_a161) (fuel := 4000) hen ei_59 (e2_fa ((cs_a38 hen l hh).mono (by decide)) (e2_fa (cs_a159 hen l hh) (e2_fa ((cs_a160 hen l hh).mono (by decide)) e2_fz))) (e2_fa ein_19 (e2_fa ein_20 (e2_fa ein_60 e2_fz))) (by decide) co_a161 fun M d _ hC hcall p e R s m args below meth c Q D cA A ads r0 ha hl0 => ?_
  have L_0 : e2_gdM M p l e R s m args below meth c Q D cA A ads r0 66 al_a161_0 [] E_a161_0 h_a161_0 := by
    refine e2_indL (u := 3) (j := 5) (lo := 2147483648) (hi := 2147483649) (b := 3) (dd := 0) hl0 (by decide) rfl rfl (Or.inr ⟨rfl, rfl⟩) rfl ci_a161_0 cj_a161_0 ?_
    intro r_0 k_0 hk_0 hp_0 hs_0 hn_0
    have hl_0 : r_0.length ≤ 4 := hs_0.len rfl
    have ha_0 := ha.ext hp_0
    exact e2_fromM hen ha_0 hcall (e2_cutA_ok (e2_fa (fun al st E h hc => hn_0 al st E h hc) e2_fz)) (hC []) (X := e2x_59) ex2_59 66 ck_a161_0
  have EN_0 := e2_entL (u := 3) (j := 5) (lo := 2147483648) (hi := 2147483649) hl0 rfl rfl rfl ci_a161_0 cj_a161_0 L_0
  exact e2_from hen ha hcall (e2_cutA_ok (e2_fa (fun al st E h hc => EN_0 al st E h hc) e2_fz)) (hC []) (X := e2x_59) ex2_59 0 ck_a161_e
/-! a162 X3_parseLevel -/
def as_a162 : List ev_V := [(2, 33, 0), (2, 30, 0), (0, 1, 0), (0, 1, 0)]
def E_a162 : e2_E := [(2147483648, 2147583648, 0, 0), (2147483652, 2147483668, 1, 0), (2147483648, 2147485248, 2, 0)]
noncomputable def f_a162 : ev_H := (an651 : e2_Q8)
noncomputable def q_a162_0 : ev_H := (an651 : e2_Q8)
noncomputable def rs_a162 : e2_Rs := [((11, 2147483648, 2147483649), q_a162_0)]
noncomputable def s_a162 : e2_Sm := (59, as_a162, E_a162, f_a162, rs_a162)
noncomputable def S_a162 : List e2_Sm := [s_a38, s_a161]
noncomputable def I_a162 : List e2_In := [(19, 2, e2x_19), (20, 2, e2x_20), (60, 1, e2x_60)]
set_option maxRecDepth 1000000 in
theorem co_a162 : e2_okSB E_a162.length as_a162 f_a162 rs_a162 = true := by decide +kernel
def al_a162_0 : List ev_V := [(2, 33, 0), (2, 30, 0), (0, 1, 0), (0, 1, 0), (0, 30, 0), (1, 3, 4294967296), (9, 0, 0)]
def E_a162_0 : e2_E := [(2147483648, 2147583648, 0, 0), (2147483652, 2147483668, 1, 0), (2147483648, 2147485248, 2, 0), (2147483648, 2147483678, 3, 0)]
noncomputable def h_a162_0 : ev_H := (an651 : e2_Q8)
noncomputable def cl_a162_e : List (Nat × e2_S) := [(66, e2_cutL (al_a162_0.set 5 (11, 2147483648, 2147483678)) 3 (E_a162_0.take 3) h_a162_0)]
set_option maxRecDepth 1000000 in
theorem ck_a162_e : e2_run (e2_cal S_a162 I_a162 4000 2) (e2_fin rs_a162) e2x_59 (e2_bpL cl_a162_e) (e2_cutA cl_a162_e) 4000 (e2_seek e2x_59 0) (e2_al 7 as_a162) [] E_a162 f_a162 = true := by decide +kernel
noncomputable def cl_a162_0 : List (Nat × e2_S) := [(66, e2_cutL (al_a162_0.set 5 (13, 11, 2147483678)) 3 (E_a162_0.take 3) h_a162_0)]
set_option maxRecDepth 1000000 in
theorem ck_a162_0 : e2_runM (e2_cal S_a162 I_a162 4000 2) (e2_fin rs_a162) e2x_59 (e2_bpL cl_a162_0) (e2_cutA cl_a162_0) 4000 (e2_seek e2x_59 66) al_a162_0 [] E_a162_0 h_a162_0 = true := by decide +kernel
set_option maxRecDepth 1000000 in
theorem ci_a162_0 : e2_idl 3 (al_a162_0.set 5 (9, 0, 0)) = true := by decide +kernel
set_option maxRecDepth 1000000 in
theorem cj_a162_0 : e2_idh 3 8 h_a162_0 = true := by decide +kernel
theorem cs_a162 (hen : en_ok) (l : Launch) (hh : e2_hand_a l) : e2_smOk l 192 s_a162 := by
  refine e2_conG (H := 189) (n := 2) (C := evd_59) (S := S_a162) (I := I_a162) (fuel := 4000) hen ei_59 (e2_fa ((cs_a38 hen l hh).mono (by decide)) (e2_fa (cs_a161 hen l hh) e2_fz)) (e2_fa ein_19 (e2_fa ein_20 (e2_fa ein_60 e2_fz))) (by decide) co_a162 fun M d _ hC hcall p e R s m args below meth c Q D cA A ads r0 ha hl0 => ?_
  have L_0 : e2_gdM M p l e R s m args below meth c Q D cA A ads r0 66 al_a162_0 [] E_a162_0 h_a162_0 := by
    refine e2_indL (u := 3) (j := 5) (lo := 2147483648) (hi := 2147483678) (b := 3) (dd := 0) hl0 (by decide) rfl rfl (Or.inr ⟨rfl, rfl⟩) rfl ci_a162_0 cj_a162_0 ?_
    intro r_0 k_0 hk_0 hp_0 hs_0 hn_0
    have hl_0 : r_0.length ≤ 4 := hs_0.len rfl
    have ha_0 := ha.ext hp_0
    exact e2_fromM hen ha_0 hcall (e2_cutA_ok (e2_fa (fun al st E h hc => hn_0 al st E h hc) e2_fz)) (hC []) (X := e2x_59) ex2_59 66 ck_a162_0
  have EN_0 := e2_entL (u := 3) (j := 5) (lo := 2147483648) (hi := 2147483678) hl0 rfl rfl rfl ci_a162_0 cj_a162_0 L_0
  exact e2_from hen ha hcall (e2_cutA_ok (e2_fa (fun al st E h hc => EN_0 al st E h hc) e2_fz)) (hC []) (X := e2x_59) ex2_59 0 ck_a162_e
/-! a163 X3_parseLevel -/
def as_a163 : List ev_V := [(2, 33, 0), (2, 30, 0), (0, 0, 0), (0, 1, 0)]
def E_a163 : e2_E := [(2147483648, 2147583648, 0, 0), (2147483652, 2147483668, 1, 0), (2147483648, 2147485248, 2, 0)]
noncomputable def f_a163 : ev_H := (an651 : e2_Q8)
noncomputable def q_a163_0 : ev_H := (an651 : e2_Q8)
noncomputable def rs_a163 : e2_Rs := [((11, 2147483648, 2147483649), q_a163_0)]
noncomputable def s_a163 : e2_Sm := (59, as_a163, E_a163, f_a163, rs_a163)
noncomputable def S_a163 : List e2_Sm := [s_a38, s_a162]
noncomputable def I_a163 : List e2_In := [(19, 2, e2x_19), (20, 2, e2x_20), (60, 1, e2x_60)]
set_option maxRecDepth 1000000 in
theorem co_a163 : e2_okSB E_a163.length as_a163 f_a163 rs_a163 = true := by decide +kernel
def al_a163_0 : List ev_V := [(2, 33, 0), (2, 30, 0), (0, 0, 0), (0, 1, 0), (0, 30, 0), (1, 3, 4294967296), (9, 0, 0)]
def E_a163_0 : e2_E := [(2147483648, 2147583648, 0, 0), (2147483652, 2147483668, 1, 0), (2147483648, 2147485248, 2, 0), (2147483648, 2147483678, 3, 0)]
noncomputable def h_a163_0 : ev_H := (an651 : e2_Q8)
noncomputable def cl_a163_e : List (Nat × e2_S) := [(66, e2_cutL (al_a163_0.set 5 (11, 2147483648, 2147483678)) 3 (E_a163_0.take 3) h_a163_0)]
set_option maxRecDepth 1000000 in
theorem ck_a163_e : e2_run (e2_cal S_a163 I_a163 4000 2) (e2_fin rs_a163) e2x_59 (e2_bpL cl_a163_e) (e2_cutA cl_a163_e) 4000 (e2_seek e2x_59 0) (e2_al 7 as_a163) [] E_a163 f_a163 = true := by decide +kernel
noncomputable def cl_a163_0 : List (Nat × e2_S) := [(66, e2_cutL (al_a163_0.set 5 (13, 11, 2147483678)) 3 (E_a163_0.take 3) h_a163_0)]
set_option maxRecDepth 1000000 in
theorem ck_a163_0 : e2_runM (e2_cal S_a163 I_a163 4000 2) (e2_fin rs_a163) e2x_59 (e2_bpL cl_a163_0) (e2_cutA cl_a163_0) 4000 (e2_seek e2x_59 66) al_a163_0 [] E_a163_0 h_a163_0 = true := by decide +kernel
set_option maxRecDepth 1000000 in
theorem ci_a163_0 : e2_idl 3 (al_a163_0.set 5 (9, 0, 0)) = true := by decide +kernel
set_option maxRecDepth 1000000 in
theorem cj_a163_0 : e2_idh 3 8 h_a163_0 = true := by decide +kernel
theorem cs_a163 (hen : en_ok) (l : Launch) (hh : e2_hand_a l) : e2_smOk l 195 s_a163 := by
  refine e2_conG (H := 192) (n := 2) (C := evd_59) (S := S_a163) (I := I_a163) (fuel := 4000) hen ei_59 (e2_fa ((cs_a38 hen l hh).mono (by decide)) (e2_fa (cs_a162 hen l hh) e2_fz)) (e2_fa ein_19 (e2_fa ein_20 (e2_fa ein_60 e2_fz))) (by decide) co_a163 fun M d _ hC hcall p e R s m args below meth c Q D cA A ads r0 ha hl0 => ?_
  have L_0 : e2_gdM M p l e R s m args below meth c Q D cA A ads r0 66 al_a163_0 [] E_a163_0 h_a163_0 := by
    refine e2_indL (u := 3) (j := 5) (lo := 2147483648) (hi := 2147483678) (b := 3) (dd := 0) hl0 (by decide) rfl rfl (Or.inr ⟨rfl, rfl⟩) rfl ci_a163_0 cj_a163_0 ?_
    intro r_0 k_0 hk_0 hp_0 hs_0 hn_0
    have hl_0 : r_0.length ≤ 4 := hs_0.len rfl
    have ha_0 := ha.ext hp_0
    exact e2_fromM hen ha_0 hcall (e2_cutA_ok (e2_fa (fun al st E h hc => hn_0 al st E h hc) e2_fz)) (hC []) (X := e2x_59) ex2_59 66 ck_a163_0
  have EN_0 := e2_entL (u := 3) (j := 5) (lo := 2147483648) (hi := 2147483678) hl0 rfl rfl rfl ci_a163_0 cj_a163_0 L_0
  exact e2_from hen ha hcall (e2_cutA_ok (e2_fa (fun al st E h hc => EN_0 al st E h hc) e2_fz)) (hC []) (X := e2x_59) ex2_59 0 ck_a163_e
/-! a164 X3_parseUnit -/
def as_a164 : List ev_V := [(2, 33, 0), (2, 30, 0), (0, 0, 0)]
def E_a164 : e2_E := [(2147483648, 2147583648, 0, 0), (2147483652, 2147483668, 1, 0), (2147483648, 2147485248, 2, 0)]
noncomputable def f_a164 : ev_H := (an651 : e2_Q8)
noncomputable def q_a164_0 : ev_H := (an651 : e2_Q8)
noncomputable def rs_a164 : e2_Rs := [((11, 2147483648, 2147483649), q_a164_0)]
noncomputable def s_a164 : e2_Sm := (62, as_a164, E_a164, f_a164, rs_a164)
noncomputable def S_a164 : List e2_Sm := [s_a38, s_a39, s_a163]
noncomputable def I_a164 : List e2_In := [(18, 2, e2x_18), (19, 2, e2x_19), (20, 2, e2x_20), (43, 2, e2x_43), (44, 3, e2x_44)]
set_option maxRecDepth 1000000 in
theorem ck_a164 : e2_run (e2_cal S_a164 I_a164 4000 2) (e2_fin rs_a164) e2x_62 (fun _ => false) (fun _ _ _ _ _ => false) 4000 (e2_seek e2x_62 0) (e2_al 7 as_a164) [] E_a164 f_a164 = true := by decide +kernel
set_option maxRecDepth 1000000 in
theorem co_a164 : e2_okSB E_a164.length as_a164 f_a164 rs_a164 = true := by decide +kernel
theorem cs_a164 (hen : en_ok) (l : Launch) (hh : e2_hand_a l) : e2_smOk l 198 s_a164 := e2_con0 (H := 195) (n := 2) (C := evd_62) (S := S_a164) (I := I_a164) (fuel := 4000) [] hen ei_62 (e2_fa ((cs_a38 hen l hh).mono (by decide)) (e2_fa ((cs_a39 hen l hh).mono (by decide)) (e2_fa (cs_a163 hen l hh) e2_fz))) (e2_fa ein_18 (e2_fa ein_19 (e2_fa ein_20 (e2_fa ein_43 (e2_fa ein_44 e2_fz))))) (by decide) co_a164 ex2_62 ck_a164
/-! a165 X3_parseLevel -/
def as_a165 : List ev_V := [(2, 33, 0), (2, 30, 0), (0, 5, 0), (0, 0, 0)]
def E_a165 : e2_E := [(2147483648, 2147583648, 0, 0), (2147483652, 2147483668, 1, 0), (2147483648, 2147485248, 2, 0)]
noncomputable def f_a165 : ev_H := (an651 : e2_Q8)
noncomputable def q_a165_0 : ev_H := (an651 : e2_Q8)
noncomputable def rs_a165 : e2_Rs := [((11, 2147483648, 2147483649), q_a165_0)]
noncomputable def s_a165 : e2_Sm := (59, as_a165, E_a165, f_a165, rs_a165)
noncomputable def S_a165 : List e2_Sm := [s_a164]
noncomputable def I_a165 : List e2_In := []
set_option maxRecDepth 1000000 in
theorem ck_a165 : e2_run (e2_cal S_a165 I_a165 4000 0) (e2_fin rs_a165) e2x_59 (fun _ => false) (fun _ _ _ _ _ => false) 4000 (e2_seek e2x_59 0) (e2_al 7 as_a165) [] E_a165 f_a165 = true := by decide +kernel
set_option maxRecDepth 1000000 in
theorem co_a165 : e2_okSB E_a165.length as_a165 f_a165 rs_a165 = true := by decide +kernel
theorem cs_a165 (hen : en_ok) (l : Launch) (hh : e2_hand_a l) : e2_smOk l 199 s_a165 := e2_con0 (H := 198) (n := 0) (C := evd_59) (S := S_a165) (I := I_a165) (fuel := 4000) [] hen ei_59 (e2_fa (cs_a164 hen l hh) e2_fz) e2_fz (by decide) co_a165 ex2_59 ck_a165
/-! a166 X3_parseLevel -/
def as_a166 : List ev_V := [(2, 33, 0), (2, 30, 0), (0, 4, 0), (0, 0, 0)]
def E_a166 : e2_E := [(2147483648, 2147583648, 0, 0), (2147483652, 2147483668, 1, 0), (2147483648, 2147485248, 2, 0)]
noncomputable def f_a166 : ev_H := (an651 : e2_Q8)
noncomputable def q_a166_0 : ev_H := (an651 : e2_Q8)
noncomputable def rs_a166 : e2_Rs := [((11, 2147483648, 2147483649), q_a166_0)]
noncomputable def s_a166 : e2_Sm := (59, as_a166, E_a166, f_a166, rs_a166)
noncomputable def S_a166 : List e2_Sm := [s_a38, s_a165]
noncomputable def I_a166 : List e2_In := [(19, 2, e2x_19), (20, 2, e2x_20), (60, 1, e2x_60)]
set_option maxRecDepth 1000000 in
theorem co_a166 : e2_okSB E_a166.length as_a166 f_a166 rs_a166 = true := by decide +kernel
def al_a166_0 : List ev_V := [(2, 33, 0), (2, 30, 0), (0, 4, 0), (0, 0, 0), (0, 30, 0), (1, 3, 4294967296), (9, 0, 0)]
def E_a166_0 : e2_E := [(2147483648, 2147583648, 0, 0), (2147483652, 2147483668, 1, 0), (2147483648, 2147485248, 2, 0), (2147483648, 2147483678, 3, 0)]
noncomputable def h_a166_0 : ev_H := (an651 : e2_Q8)
noncomputable def cl_a166_e : List (Nat × e2_S) := [(66, e2_cutL (al_a166_0.set 5 (11, 2147483648, 2147483678)) 3 (E_a166_0.take 3) h_a166_0)]
set_option maxRecDepth 1000000 in
theorem ck_a166_e : e2_run (e2_cal S_a166 I_a166 4000 2) (e2_fin rs_a166) e2x_59 (e2_bpL cl_a166_e) (e2_cutA cl_a166_e) 4000 (e2_seek e2x_59 0) (e2_al 7 as_a166) [] E_a166 f_a166 = true := by decide +kernel
noncomputable def cl_a166_0 : List (Nat × e2_S) := [(66, e2_cutL (al_a166_0.set 5 (13, 11, 2147483678)) 3 (E_a166_0.take 3) h_a166_0)]
set_option maxRecDepth 1000000 in
theorem ck_a166_0 : e2_runM (e2_cal S_a166 I_a166 4000 2) (e2_fin rs_a166) e2x_59 (e2_bpL cl_a166_0) (e2_cutA cl_a166_0) 4000 (e2_seek e2x_59 66) al_a166_0 [] E_a166_0 h_a166_0 = true := by decide +kernel
set_option maxRecDepth 1000000 in
theorem ci_a166_0 : e2_idl 3 (al_a166_0.set 5 (9, 0, 0)) = true := by decide +kernel
set_option maxRecDepth 1000000 in
theorem cj_a166_0 : e2_idh 3 8 h_a166_0 = true := by decide +kernel
theorem cs_a166 (hen : en_ok) (l : Launch) (hh : e2_hand_a l) : e2_smOk l 202 s_a166 := by
  refine e2_conG (H := 199) (n := 2) (C := evd_59) (S := S_a166) (I := I_a166) (fuel := 4000) hen ei_59 (e2_fa ((cs_a38 hen l hh).mono (by decide)) (e2_fa (cs_a165 hen l hh) e2_fz)) (e2_fa ein_19 (e2_fa ein_20 (e2_fa ein_60 e2_fz))) (by decide) co_a166 fun M d _ hC hcall p e R s m args below meth c Q D cA A ads r0 ha hl0 => ?_
  have L_0 : e2_gdM M p l e R s m args below meth c Q D cA A ads r0 66 al_a166_0 [] E_a166_0 h_a166_0 := by
    refine e2_indL (u := 3) (j := 5) (lo := 2147483648) (hi := 2147483678) (b := 3) (dd := 0) hl0 (by decide) rfl rfl (Or.inr ⟨rfl, rfl⟩) rfl ci_a166_0 cj_a166_0 ?_
    intro r_0 k_0 hk_0 hp_0 hs_0 hn_0
    have hl_0 : r_0.length ≤ 4 := hs_0.len rfl
    have ha_0 := ha.ext hp_0
    exact e2_fromM hen ha_0 hcall (e2_cutA_ok (e2_fa (fun al st E h hc => hn_0 al st E h hc) e2_fz)) (hC []) (X := e2x_59) ex2_59 66 ck_a166_0
  have EN_0 := e2_entL (u := 3) (j := 5) (lo := 2147483648) (hi := 2147483678) hl0 rfl rfl rfl ci_a166_0 cj_a166_0 L_0
  exact e2_from hen ha hcall (e2_cutA_ok (e2_fa (fun al st E h hc => EN_0 al st E h hc) e2_fz)) (hC []) (X := e2x_59) ex2_59 0 ck_a166_e
/-! a167 X3_parseLevel -/
def as_a167 : List ev_V := [(2, 33, 0), (2, 30, 0), (0, 3, 0), (0, 0, 0)]
def E_a167 : e2_E := [(2147483648, 2147583648, 0, 0), (2147483652, 2147483668, 1, 0), (2147483648, 2147485248, 2, 0)]
noncomputable def f_a167 : ev_H := (an651 : e2_Q8)
noncomputable def q_a167_0 : ev_H := (an651 : e2_Q8)
noncomputable def rs_a167 : e2_Rs := [((11, 2147483648, 2147483649), q_a167_0)]
noncomputable def s_a167 : e2_Sm := (59, as_a167, E_a167, f_a167, rs_a167)
noncomputable def S_a167 : List e2_Sm := [s_a38, s_a166]
noncomputable def I_a167 : List e2_In := [(19, 2, e2x_19), (20, 2, e2x_20), (60, 1, e2x_60)]
set_option maxRecDepth 1000000 in
theorem co_a167 : e2_okSB E_a167.length as_a167 f_a167 rs_a167 = true := by decide +kernel
def al_a167_0 : List ev_V := [(2, 33, 0), (2, 30, 0), (0, 3, 0), (0, 0, 0), (0, 30, 0), (1, 3, 4294967296), (9, 0, 0)]
def E_a167_0 : e2_E := [(2147483648, 2147583648, 0, 0), (2147483652, 2147483668, 1, 0), (2147483648, 2147485248, 2, 0), (2147483648, 2147483678, 3, 0)]
noncomputable def h_a167_0 : ev_H := (an651 : e2_Q8)
noncomputable def cl_a167_e : List (Nat × e2_S) := [(66, e2_cutL (al_a167_0.set 5 (11, 2147483648, 2147483678)) 3 (E_a167_0.take 3) h_a167_0)]
set_option maxRecDepth 1000000 in
theorem ck_a167_e : e2_run (e2_cal S_a167 I_a167 4000 2) (e2_fin rs_a167) e2x_59 (e2_bpL cl_a167_e) (e2_cutA cl_a167_e) 4000 (e2_seek e2x_59 0) (e2_al 7 as_a167) [] E_a167 f_a167 = true := by decide +kernel
noncomputable def cl_a167_0 : List (Nat × e2_S) := [(66, e2_cutL (al_a167_0.set 5 (13, 11, 2147483678)) 3 (E_a167_0.take 3) h_a167_0)]
set_option maxRecDepth 1000000 in
theorem ck_a167_0 : e2_runM (e2_cal S_a167 I_a167 4000 2) (e2_fin rs_a167) e2x_59 (e2_bpL cl_a167_0) (e2_cutA cl_a167_0) 4000 (e2_seek e2x_59 66) al_a167_0 [] E_a167_0 h_a167_0 = true := by decide +kernel
set_option maxRecDepth 1000000 in
theorem ci_a167_0 : e2_idl 3 (al_a167_0.set 5 (9, 0, 0)) = true := by decide +kernel
set_option maxRecDepth 1000000 in
theorem cj_a167_0 : e2_idh 3 8 h_a167_0 = true := by decide +kernel
theorem cs_a167 (hen : en_ok) (l : Launch) (hh : e2_hand_a l) : e2_smOk l 205 s_a167 := by
  refine e2_conG (H := 202) (n := 2) (C := evd_59) (S := S_a167) (I := I_a167) (fuel := 4000) hen ei_59 (e2_fa ((cs_a38 hen l hh).mono (by decide)) (e2_fa (cs_a166 hen l hh) e2_fz)) (e2_fa ein_19 (e2_fa ein_20 (e2_fa ein_60 e2_fz))) (by decide) co_a167 fun M d _ hC hcall p e R s m args below meth c Q D cA A ads r0 ha hl0 => ?_
  have L_0 : e2_gdM M p l e R s m args below meth c Q D cA A ads r0 66 al_a167_0 [] E_a167_0 h_a167_0 := by
    refine e2_indL (u := 3) (j := 5) (lo := 2147483648) (hi := 2147483678) (b := 3) (dd := 0) hl0 (by decide) rfl rfl (Or.inr ⟨rfl, rfl⟩) rfl ci_a167_0 cj_a167_0 ?_
    intro r_0 k_0 hk_0 hp_0 hs_0 hn_0
    have hl_0 : r_0.length ≤ 4 := hs_0.len rfl
    have ha_0 := ha.ext hp_0
    exact e2_fromM hen ha_0 hcall (e2_cutA_ok (e2_fa (fun al st E h hc => hn_0 al st E h hc) e2_fz)) (hC []) (X := e2x_59) ex2_59 66 ck_a167_0
  have EN_0 := e2_entL (u := 3) (j := 5) (lo := 2147483648) (hi := 2147483678) hl0 rfl rfl rfl ci_a167_0 cj_a167_0 L_0
  exact e2_from hen ha hcall (e2_cutA_ok (e2_fa (fun al st E h hc => EN_0 al st E h hc) e2_fz)) (hC []) (X := e2x_59) ex2_59 0 ck_a167_e
/-! a168 X3_parseNot -/
def as_a168 : List ev_V := [(2, 33, 0), (2, 30, 0), (0, 0, 0)]
def E_a168 : e2_E := [(2147483648, 2147583648, 0, 0), (2147483652, 2147483668, 1, 0), (2147483648, 2147485248, 2, 0)]
noncomputable def f_a168 : ev_H := (an651 : e2_Q8)
noncomputable def q_a168_0 : ev_H := (an651 : e2_Q8)
noncomputable def rs_a168 : e2_Rs := [((11, 2147483648, 2147483649), q_a168_0)]
noncomputable def s_a168 : e2_Sm := (61, as_a168, E_a168, f_a168, rs_a168)
noncomputable def S_a168 : List e2_Sm := [s_a38, s_a161]
noncomputable def I_a168 : List e2_In := [(19, 2, e2x_19), (20, 2, e2x_20)]
set_option maxRecDepth 1000000 in
theorem ck_a168 : e2_run (e2_cal S_a168 I_a168 4000 2) (e2_fin rs_a168) e2x_61 (fun _ => false) (fun _ _ _ _ _ => false) 4000 (e2_seek e2x_61 0) (e2_al 3 as_a168) [] E_a168 f_a168 = true := by decide +kernel
set_option maxRecDepth 1000000 in
theorem co_a168 : e2_okSB E_a168.length as_a168 f_a168 rs_a168 = true := by decide +kernel
theorem cs_a168 (hen : en_ok) (l : Launch) (hh : e2_hand_a l) : e2_smOk l 192 s_a168 := e2_con0 (H := 189) (n := 2) (C := evd_61) (S := S_a168) (I := I_a168) (fuel := 4000) [] hen ei_61 (e2_fa ((cs_a38 hen l hh).mono (by decide)) (e2_fa (cs_a161 hen l hh) e2_fz)) (e2_fa ein_19 (e2_fa ein_20 e2_fz)) (by decide) co_a168 ex2_61 ck_a168
/-! a169 X3_parseLevel -/
def as_a169 : List ev_V := [(2, 33, 0), (2, 30, 0), (0, 2, 0), (0, 0, 0)]
def E_a169 : e2_E := [(2147483648, 2147583648, 0, 0), (2147483652, 2147483668, 1, 0), (2147483648, 2147485248, 2, 0)]
noncomputable def f_a169 : ev_H := (an651 : e2_Q8)
noncomputable def q_a169_0 : ev_H := (an651 : e2_Q8)
noncomputable def rs_a169 : e2_Rs := [((11, 2147483648, 2147483649), q_a169_0)]
noncomputable def s_a169 : e2_Sm := (59, as_a169, E_a169, f_a169, rs_a169)
noncomputable def S_a169 : List e2_Sm := [s_a38, s_a167, s_a168]
noncomputable def I_a169 : List e2_In := [(19, 2, e2x_19), (20, 2, e2x_20), (60, 1, e2x_60)]
set_option maxRecDepth 1000000 in
theorem co_a169 : e2_okSB E_a169.length as_a169 f_a169 rs_a169 = true := by decide +kernel
def al_a169_0 : List ev_V := [(2, 33, 0), (2, 30, 0), (0, 2, 0), (0, 0, 0), (0, 1, 0), (1, 3, 4294967296), (9, 0, 0)]
def E_a169_0 : e2_E := [(2147483648, 2147583648, 0, 0), (2147483652, 2147483668, 1, 0), (2147483648, 2147485248, 2, 0), (2147483648, 2147483649, 3, 0)]
noncomputable def h_a169_0 : ev_H := (an651 : e2_Q8)
noncomputable def cl_a169_e : List (Nat × e2_S) := [(66, e2_cutL (al_a169_0.set 5 (11, 2147483648, 2147483649)) 3 (E_a169_0.take 3) h_a169_0)]
set_option maxRecDepth 1000000 in
theorem ck_a169_e : e2_run (e2_cal S_a169 I_a169 4000 2) (e2_fin rs_a169) e2x_59 (e2_bpL cl_a169_e) (e2_cutA cl_a169_e) 4000 (e2_seek e2x_59 0) (e2_al 7 as_a169) [] E_a169 f_a169 = true := by decide +kernel
noncomputable def cl_a169_0 : List (Nat × e2_S) := [(66, e2_cutL (al_a169_0.set 5 (13, 11, 2147483649)) 3 (E_a169_0.take 3) h_a169_0)]
set_option maxRecDepth 1000000 in
theorem ck_a169_0 : e2_runM (e2_cal S_a169 I_a169 4000 2) (e2_fin rs_a169) e2x_59 (e2_bpL cl_a169_0) (e2_cutA cl_a169_0) 4000 (e2_seek e2x_59 66) al_a169_0 [] E_a169_0 h_a169_0 = true := by decide +kernel
set_option maxRecDepth 1000000 in
theorem ci_a169_0 : e2_idl 3 (al_a169_0.set 5 (9, 0, 0)) = true := by decide +kernel
set_option maxRecDepth 1000000 in
theorem cj_a169_0 : e2_idh 3 8 h_a169_0 = true := by decide +kernel
theorem cs_a169 (hen : en_ok) (l : Launch) (hh : e2_hand_a l) : e2_smOk l 208 s_a169 := by
  refine e2_conG (H := 205) (n := 2) (C := evd_59) (S := S_a169) (I := I_a169) (fuel := 4000) hen ei_59 (e2_fa ((cs_a38 hen l hh).mono (by decide)) (e2_fa (cs_a167 hen l hh) (e2_fa ((cs_a168 hen l hh).mono (by decide)) e2_fz))) (e2_fa ein_19 (e2_fa ein_20 (e2_fa ein_60 e2_fz))) (by decide) co_a169 fun M d _ hC hcall p e R s m args below meth c Q D cA A ads r0 ha hl0 => ?_
  have L_0 : e2_gdM M p l e R s m args below meth c Q D cA A ads r0 66 al_a169_0 [] E_a169_0 h_a169_0 := by
    refine e2_indL (u := 3) (j := 5) (lo := 2147483648) (hi := 2147483649) (b := 3) (dd := 0) hl0 (by decide) rfl rfl (Or.inr ⟨rfl, rfl⟩) rfl ci_a169_0 cj_a169_0 ?_
    intro r_0 k_0 hk_0 hp_0 hs_0 hn_0
    have hl_0 : r_0.length ≤ 4 := hs_0.len rfl
    have ha_0 := ha.ext hp_0
    exact e2_fromM hen ha_0 hcall (e2_cutA_ok (e2_fa (fun al st E h hc => hn_0 al st E h hc) e2_fz)) (hC []) (X := e2x_59) ex2_59 66 ck_a169_0
  have EN_0 := e2_entL (u := 3) (j := 5) (lo := 2147483648) (hi := 2147483649) hl0 rfl rfl rfl ci_a169_0 cj_a169_0 L_0
  exact e2_from hen ha hcall (e2_cutA_ok (e2_fa (fun al st E h hc => EN_0 al st E h hc) e2_fz)) (hC []) (X := e2x_59) ex2_59 0 ck_a169_e
/-! a170 X3_parseLevel -/
def as_a170 : List ev_V := [(2, 33, 0), (2, 30, 0), (0, 1, 0), (0, 0, 0)]
def E_a170 : e2_E := [(2147483648, 2147583648, 0, 0), (2147483652, 2147483668, 1, 0), (2147483648, 2147485248, 2, 0)]
noncomputable def f_a170 : ev_H := (an651 : e2_Q8)
noncomputable def q_a170_0 : ev_H := (an651 : e2_Q8)
noncomputable def rs_a170 : e2_Rs := [((11, 2147483648, 2147483649), q_a170_0)]
noncomputable def s_a170 : e2_Sm := (59, as_a170, E_a170, f_a170, rs_a170)
noncomputable def S_a170 : List e2_Sm := [s_a38, s_a169]
noncomputable def I_a170 : List e2_In := [(19, 2, e2x_19), (20, 2, e2x_20), (60, 1, e2x_60)]
set_option maxRecDepth 1000000 in
theorem co_a170 : e2_okSB E_a170.length as_a170 f_a170 rs_a170 = true := by decide +kernel
def al_a170_0 : List ev_V := [(2, 33, 0), (2, 30, 0), (0, 1, 0), (0, 0, 0), (0, 30, 0), (1, 3, 4294967296), (9, 0, 0)]
def E_a170_0 : e2_E := [(2147483648, 2147583648, 0, 0), (2147483652, 2147483668, 1, 0), (2147483648, 2147485248, 2, 0), (2147483648, 2147483678, 3, 0)]
noncomputable def h_a170_0 : ev_H := (an651 : e2_Q8)
noncomputable def cl_a170_e : List (Nat × e2_S) := [(66, e2_cutL (al_a170_0.set 5 (11, 2147483648, 2147483678)) 3 (E_a170_0.take 3) h_a170_0)]
set_option maxRecDepth 1000000 in
theorem ck_a170_e : e2_run (e2_cal S_a170 I_a170 4000 2) (e2_fin rs_a170) e2x_59 (e2_bpL cl_a170_e) (e2_cutA cl_a170_e) 4000 (e2_seek e2x_59 0) (e2_al 7 as_a170) [] E_a170 f_a170 = true := by decide +kernel
noncomputable def cl_a170_0 : List (Nat × e2_S) := [(66, e2_cutL (al_a170_0.set 5 (13, 11, 2147483678)) 3 (E_a170_0.take 3) h_a170_0)]
set_option maxRecDepth 1000000 in
theorem ck_a170_0 : e2_runM (e2_cal S_a170 I_a170 4000 2) (e2_fin rs_a170) e2x_59 (e2_bpL cl_a170_0) (e2_cutA cl_a170_0) 4000 (e2_seek e2x_59 66) al_a170_0 [] E_a170_0 h_a170_0 = true := by decide +kernel
set_option maxRecDepth 1000000 in
theorem ci_a170_0 : e2_idl 3 (al_a170_0.set 5 (9, 0, 0)) = true := by decide +kernel
set_option maxRecDepth 1000000 in
theorem cj_a170_0 : e2_idh 3 8 h_a170_0 = true := by decide +kernel
theorem cs_a170 (hen : en_ok) (l : Launch) (hh : e2_hand_a l) : e2_smOk l 211 s_a170 := by
  refine e2_conG (H := 208) (n := 2) (C := evd_59) (S := S_a170) (I := I_a170) (fuel := 4000) hen ei_59 (e2_fa ((cs_a38 hen l hh).mono (by decide)) (e2_fa (cs_a169 hen l hh) e2_fz)) (e2_fa ein_19 (e2_fa ein_20 (e2_fa ein_60 e2_fz))) (by decide) co_a170 fun M d _ hC hcall p e R s m args below meth c Q D cA A ads r0 ha hl0 => ?_
  have L_0 : e2_gdM M p l e R s m args below meth c Q D cA A ads r0 66 al_a170_0 [] E_a170_0 h_a170_0 := by
    refine e2_indL (u := 3) (j := 5) (lo := 2147483648) (hi := 2147483678) (b := 3) (dd := 0) hl0 (by decide) rfl rfl (Or.inr ⟨rfl, rfl⟩) rfl ci_a170_0 cj_a170_0 ?_
    intro r_0 k_0 hk_0 hp_0 hs_0 hn_0
    have hl_0 : r_0.length ≤ 4 := hs_0.len rfl
    have ha_0 := ha.ext hp_0
    exact e2_fromM hen ha_0 hcall (e2_cutA_ok (e2_fa (fun al st E h hc => hn_0 al st E h hc) e2_fz)) (hC []) (X := e2x_59) ex2_59 66 ck_a170_0
  have EN_0 := e2_entL (u := 3) (j := 5) (lo := 2147483648) (hi := 2147483678) hl0 rfl rfl rfl ci_a170_0 cj_a170_0 L_0
  exact e2_from hen ha hcall (e2_cutA_ok (e2_fa (fun al st E h hc => EN_0 al st E h hc) e2_fz)) (hC []) (X := e2x_59) ex2_59 0 ck_a170_e
/-! a171 X3_parseLevel -/
def as_a171 : List ev_V := [(2, 33, 0), (2, 30, 0), (0, 0, 0), (0, 0, 0)]
def E_a171 : e2_E := [(2147483648, 2147583648, 0, 0), (2147483652, 2147483668, 1, 0), (2147483648, 2147485248, 2, 0)]
noncomputable def f_a171 : ev_H := (an651 : e2_Q8)
noncomputable def q_a171_0 : ev_H := (an651 : e2_Q8)
noncomputable def rs_a171 : e2_Rs := [((11, 2147483648, 2147483649), q_a171_0)]
noncomputable def s_a171 : e2_Sm := (59, as_a171, E_a171, f_a171, rs_a171)
noncomputable def S_a171 : List e2_Sm := [s_a38, s_a170]
noncomputable def I_a171 : List e2_In := [(19, 2, e2x_19), (20, 2, e2x_20), (60, 1, e2x_60)]
set_option maxRecDepth 1000000 in
theorem co_a171 : e2_okSB E_a171.length as_a171 f_a171 rs_a171 = true := by decide +kernel
def al_a171_0 : List ev_V := [(2, 33, 0), (2, 30, 0), (0, 0, 0), (0, 0, 0), (0, 30, 0), (1, 3, 4294967296), (9, 0, 0)]
def E_a171_0 : e2_E := [(2147483648, 2147583648, 0, 0), (2147483652, 2147483668, 1, 0), (2147483648, 2147485248, 2, 0), (2147483648, 2147483678, 3, 0)]
noncomputable def h_a171_0 : ev_H := (an651 : e2_Q8)
noncomputable def cl_a171_e : List (Nat × e2_S) := [(66, e2_cutL (al_a171_0.set 5 (11, 2147483648, 2147483678)) 3 (E_a171_0.take 3) h_a171_0)]
set_option maxRecDepth 1000000 in
theorem ck_a171_e : e2_run (e2_cal S_a171 I_a171 4000 2) (e2_fin rs_a171) e2x_59 (e2_bpL cl_a171_e) (e2_cutA cl_a171_e) 4000 (e2_seek e2x_59 0) (e2_al 7 as_a171) [] E_a171 f_a171 = true := by decide +kernel
noncomputable def cl_a171_0 : List (Nat × e2_S) := [(66, e2_cutL (al_a171_0.set 5 (13, 11, 2147483678)) 3 (E_a171_0.take 3) h_a171_0)]
set_option maxRecDepth 1000000 in
theorem ck_a171_0 : e2_runM (e2_cal S_a171 I_a171 4000 2) (e2_fin rs_a171) e2x_59 (e2_bpL cl_a171_0) (e2_cutA cl_a171_0) 4000 (e2_seek e2x_59 66) al_a171_0 [] E_a171_0 h_a171_0 = true := by decide +kernel
set_option maxRecDepth 1000000 in
theorem ci_a171_0 : e2_idl 3 (al_a171_0.set 5 (9, 0, 0)) = true := by decide +kernel
set_option maxRecDepth 1000000 in
theorem cj_a171_0 : e2_idh 3 8 h_a171_0 = true := by decide +kernel
theorem cs_a171 (hen : en_ok) (l : Launch) (hh : e2_hand_a l) : e2_smOk l 214 s_a171 := by
  refine e2_conG (H := 211) (n := 2) (C := evd_59) (S := S_a171) (I := I_a171) (fuel := 4000) hen ei_59 (e2_fa ((cs_a38 hen l hh).mono (by decide)) (e2_fa (cs_a170 hen l hh) e2_fz)) (e2_fa ein_19 (e2_fa ein_20 (e2_fa ein_60 e2_fz))) (by decide) co_a171 fun M d _ hC hcall p e R s m args below meth c Q D cA A ads r0 ha hl0 => ?_
  have L_0 : e2_gdM M p l e R s m args below meth c Q D cA A ads r0 66 al_a171_0 [] E_a171_0 h_a171_0 := by
    refine e2_indL (u := 3) (j := 5) (lo := 2147483648) (hi := 2147483678) (b := 3) (dd := 0) hl0 (by decide) rfl rfl (Or.inr ⟨rfl, rfl⟩) rfl ci_a171_0 cj_a171_0 ?_
    intro r_0 k_0 hk_0 hp_0 hs_0 hn_0
    have hl_0 : r_0.length ≤ 4 := hs_0.len rfl
    have ha_0 := ha.ext hp_0
    exact e2_fromM hen ha_0 hcall (e2_cutA_ok (e2_fa (fun al st E h hc => hn_0 al st E h hc) e2_fz)) (hC []) (X := e2x_59) ex2_59 66 ck_a171_0
  have EN_0 := e2_entL (u := 3) (j := 5) (lo := 2147483648) (hi := 2147483678) hl0 rfl rfl rfl ci_a171_0 cj_a171_0 L_0
  exact e2_from hen ha hcall (e2_cutA_ok (e2_fa (fun al st E h hc => EN_0 al st E h hc) e2_fz)) (hC []) (X := e2x_59) ex2_59 0 ck_a171_e
/-! a172 X3_parseFormula -/
def as_a172 : List ev_V := [(2, 33, 0), (2, 30, 0)]
def E_a172 : e2_E := [(2147483648, 2147583648, 0, 0), (2147483652, 2147483668, 1, 0), (2147483648, 2147485248, 2, 0)]
noncomputable def f_a172 : ev_H := (an651 : e2_Q8)
noncomputable def q_a172_0 : ev_H := (an651 : e2_Q8)
noncomputable def rs_a172 : e2_Rs := [((11, 2147483648, 2147483649), q_a172_0)]
noncomputable def s_a172 : e2_Sm := (58, as_a172, E_a172, f_a172, rs_a172)
noncomputable def S_a172 : List e2_Sm := [s_a38, s_a39, s_a171]
noncomputable def I_a172 : List e2_In := [(17, 1, e2x_17), (43, 2, e2x_43), (44, 3, e2x_44)]
set_option maxRecDepth 1000000 in
theorem ck_a172 : e2_run (e2_cal S_a172 I_a172 4000 2) (e2_fin rs_a172) e2x_58 (fun _ => false) (fun _ _ _ _ _ => false) 4000 (e2_seek e2x_58 0) (e2_al 2 as_a172) [] E_a172 f_a172 = true := by decide +kernel
set_option maxRecDepth 1000000 in
theorem co_a172 : e2_okSB E_a172.length as_a172 f_a172 rs_a172 = true := by decide +kernel
theorem cs_a172 (hen : en_ok) (l : Launch) (hh : e2_hand_a l) : e2_smOk l 217 s_a172 := e2_con0 (H := 214) (n := 2) (C := evd_58) (S := S_a172) (I := I_a172) (fuel := 4000) [] hen ei_58 (e2_fa ((cs_a38 hen l hh).mono (by decide)) (e2_fa ((cs_a39 hen l hh).mono (by decide)) (e2_fa (cs_a171 hen l hh) e2_fz))) (e2_fa ein_17 (e2_fa ein_43 (e2_fa ein_44 e2_fz))) (by decide) co_a172 ex2_58 ck_a172
/-! a173 X3_parseNever -/
def as_a173 : List ev_V := [(2, 33, 0)]
def E_a173 : e2_E := [(2147483648, 2147583648, 0, 0), (2147483652, 2147483668, 1, 0), (2147483648, 2147485248, 2, 0)]
def ac175 : ev_C := (53, [(0, 8, 0)])
def an652 : e2_Q1 := (ac175, ac3)
def an653 : e2_Q2 := (an652, an39)
def an654 : e2_Q3 := (an653, an43)
def an655 : e2_Q4 := (an37, an654)
def an656 : e2_Q5 := (an655, an60)
def an657 : e2_Q6 := (an30, an656)
def an658 : e2_Q2 := (an282, an86)
def an659 : e2_Q3 := (an658, an90)
def an660 : e2_Q4 := (an84, an659)
def an661 : e2_Q5 := (an266, an660)
def an662 : e2_Q6 := (an661, an124)
def an663 : e2_Q7 := (an657, an662)
def an664 : e2_Q2 := (an282, an150)
def an665 : e2_Q3 := (an664, an154)
def an666 : e2_Q4 := (an148, an665)
def an667 : e2_Q5 := (an601, an666)
def an668 : e2_Q6 := (an667, an188)
def an669 : e2_Q7 := (an668, an252)
def an670 : e2_Q8 := (an663, an669)
noncomputable def f_a173 : ev_H := (an670 : e2_Q8)
noncomputable def q_a173_0 : ev_H := (an670 : e2_Q8)
noncomputable def rs_a173 : e2_Rs := [((11, 2147483648, 2147483649), q_a173_0)]
noncomputable def s_a173 : e2_Sm := (55, as_a173, E_a173, f_a173, rs_a173)
noncomputable def S_a173 : List e2_Sm := [s_a38, s_a39]
noncomputable def I_a173 : List e2_In := [(43, 2, e2x_43), (44, 3, e2x_44), (120, 3, e2x_120), (159, 2, e2x_159)]
set_option maxRecDepth 1000000 in
theorem co_a173 : e2_okSB E_a173.length as_a173 f_a173 rs_a173 = true := by decide +kernel
noncomputable def cm_a173_0 : List (Nat × e2_S) := []
noncomputable def cm_a173_1 : List (Nat × e2_S) := [(80, nm_S (fun pc => e2_run (e2_cal S_a173 I_a173 4000 2) (e2_fin rs_a173) e2x_55 (e2_bpL cm_a173_0) (e2_cutA cm_a173_0) 4000 (e2_seek e2x_55 pc)) 17 13 1 20 8 101 128 2)]
noncomputable def cm_a173_2 : List (Nat × e2_S) := [(25, nm_S (fun pc => e2_run (e2_cal S_a173 I_a173 4000 2) (e2_fin rs_a173) e2x_55 (e2_bpL cm_a173_1) (e2_cutA cm_a173_1) 4000 (e2_seek e2x_55 pc)) 17 13 1 20 8 46 73 1)]
set_option maxRecDepth 1000000 in
theorem ck_a173 : e2_run (e2_cal S_a173 I_a173 4000 2) (e2_fin rs_a173) e2x_55 (e2_bpL cm_a173_2) (e2_cutA cm_a173_2) 4000 (e2_seek e2x_55 0) (e2_al 3 as_a173) [] E_a173 f_a173 = true := by decide +kernel
theorem cs_a173 (hen : en_ok) (l : Launch) (hh : e2_hand_a l) : e2_smOk l 68 s_a173 := by
  refine e2_conD (H := 65) (n := 2) (C := evd_55) (S := S_a173) (I := I_a173) (fuel := 4000) hen ei_55 (e2_fa ((cs_a38 hen l hh).mono (by decide)) (e2_fa (cs_a39 hen l hh) e2_fz)) (e2_fa ein_43 (e2_fa ein_44 (e2_fa ein_120 (e2_fa ein_159 e2_fz)))) (by decide) co_a173 fun M d hd _ hC hcall p e R s m args below meth c Q D cA A ads r0 ha hl0 => ?_
  have K0 : ∀ pc al st E h, e2_run (e2_cal S_a173 I_a173 4000 2) (e2_fin rs_a173) e2x_55 (e2_bpL cm_a173_0) (e2_cutA cm_a173_0) 4000 (e2_seek e2x_55 pc) al st E h = true → e2_gdM M p l e R s m args below meth c Q D cA A ads r0 pc al st E h := fun pc al st E h hr => e2_from hen ha hcall (e2_cutA_ok e2_fz) (hC []) (X := e2x_55) ex2_55 pc hr
  have S1 : ∀ al st E h, nm_S (fun pc => e2_run (e2_cal S_a173 I_a173 4000 2) (e2_fin rs_a173) e2x_55 (e2_bpL cm_a173_0) (e2_cutA cm_a173_0) 4000 (e2_seek e2x_55 pc)) 17 13 1 20 8 101 128 2 al st E h = true → e2_gdM M p l e R s m args below meth c Q D cA A ads r0 80 al st E h := fun al st E h hh => by
    obtain ⟨rfl, g1, g2, g3, g4, g5⟩ := nm_S_t hh
    exact nm_macro [] hen hC ex2_55 ha (by omega) (by decide) (by decide) (by decide) (by decide) g1 a55_80 a55_81 a55_82 a55_85 a55_88 a55_89 a55_92 a55_95 a55_98 a55_103 a55_104 a55_107 a55_110 a55_111 a55_114 a55_117 a55_118 a55_121 a55_124 a55_127 g3 g4 (K0 _ _ _ _ _ g2) (K0 _ _ _ _ _ g5)
  have K1 : ∀ pc al st E h, e2_run (e2_cal S_a173 I_a173 4000 2) (e2_fin rs_a173) e2x_55 (e2_bpL cm_a173_1) (e2_cutA cm_a173_1) 4000 (e2_seek e2x_55 pc) al st E h = true → e2_gdM M p l e R s m args below meth c Q D cA A ads r0 pc al st E h := fun pc al st E h hr => e2_from hen ha hcall (e2_cutA_ok (e2_fa S1 e2_fz)) (hC []) (X := e2x_55) ex2_55 pc hr
  have S2 : ∀ al st E h, nm_S (fun pc => e2_run (e2_cal S_a173 I_a173 4000 2) (e2_fin rs_a173) e2x_55 (e2_bpL cm_a173_1) (e2_cutA cm_a173_1) 4000 (e2_seek e2x_55 pc)) 17 13 1 20 8 46 73 1 al st E h = true → e2_gdM M p l e R s m args below meth c Q D cA A ads r0 25 al st E h := fun al st E h hh => by
    obtain ⟨rfl, g1, g2, g3, g4, g5⟩ := nm_S_t hh
    exact nm_macro [] hen hC ex2_55 ha (by omega) (by decide) (by decide) (by decide) (by decide) g1 a55_25 a55_26 a55_27 a55_30 a55_33 a55_34 a55_37 a55_40 a55_43 a55_48 a55_49 a55_52 a55_55 a55_56 a55_59 a55_62 a55_63 a55_66 a55_69 a55_72 g3 g4 (K1 _ _ _ _ _ g2) (K1 _ _ _ _ _ g5)
  have K2 : ∀ pc al st E h, e2_run (e2_cal S_a173 I_a173 4000 2) (e2_fin rs_a173) e2x_55 (e2_bpL cm_a173_2) (e2_cutA cm_a173_2) 4000 (e2_seek e2x_55 pc) al st E h = true → e2_gdM M p l e R s m args below meth c Q D cA A ads r0 pc al st E h := fun pc al st E h hr => e2_from hen ha hcall (e2_cutA_ok (e2_fa S2 e2_fz)) (hC []) (X := e2x_55) ex2_55 pc hr
  exact K2 0 _ _ _ _ ck_a173
/-! a174 X3_indexOf -/
def as_a174 : List ev_V := [(5, 0, 0), (2, 20, 0), (11, 2147483648, 2147483655)]
def E_a174 : e2_E := [(2147483648, 2147583648, 0, 0), (2147483652, 2147483668, 1, 0)]
def an671 : e2_Q7 := (an657, an455)
def an672 : e2_Q8 := (an671, an276)
noncomputable def f_a174 : ev_H := (an672 : e2_Q8)
noncomputable def q_a174_0 : ev_H := (an672 : e2_Q8)
noncomputable def rs_a174 : e2_Rs := [((11, 2147483647, 2147483654), q_a174_0)]
noncomputable def s_a174 : e2_Sm := (48, as_a174, E_a174, f_a174, rs_a174)
noncomputable def S_a174 : List e2_Sm := []
noncomputable def I_a174 : List e2_In := []
set_option maxRecDepth 1000000 in
theorem co_a174 : e2_okSB E_a174.length as_a174 f_a174 rs_a174 = true := by decide +kernel
def al_a174_0 : List ev_V := [(5, 0, 0), (9, 0, 0), (2, 20, 0), (11, 2147483648, 2147483655), (1, 2, 4294967296)]
def E_a174_0 : e2_E := [(2147483648, 2147583648, 0, 0), (2147483652, 2147483668, 1, 0), (2147483648, 2147483655, 2, 0)]
noncomputable def h_a174_0 : ev_H := (an672 : e2_Q8)
noncomputable def cl_a174_e : List (Nat × e2_S) := [(3, e2_cutL (al_a174_0.set 4 (11, 2147483648, 2147483655)) 2 (E_a174_0.take 2) h_a174_0)]
set_option maxRecDepth 1000000 in
theorem ck_a174_e : e2_run (e2_cal S_a174 I_a174 4000 0) (e2_fin rs_a174) e2x_48 (e2_bpL cl_a174_e) (e2_cutA cl_a174_e) 4000 (e2_seek e2x_48 0) (e2_al 5 as_a174) [] E_a174 f_a174 = true := by decide +kernel
noncomputable def cl_a174_0 : List (Nat × e2_S) := [(3, e2_cutL (al_a174_0.set 4 (13, 10, 2147483655)) 2 (E_a174_0.take 2) h_a174_0)]
set_option maxRecDepth 1000000 in
theorem ck_a174_0 : e2_runM (e2_cal S_a174 I_a174 4000 0) (e2_fin rs_a174) e2x_48 (e2_bpL cl_a174_0) (e2_cutA cl_a174_0) 4000 (e2_seek e2x_48 3) al_a174_0 [] E_a174_0 h_a174_0 = true := by decide +kernel
set_option maxRecDepth 1000000 in
theorem ci_a174_0 : e2_idl 2 (al_a174_0.set 4 (9, 0, 0)) = true := by decide +kernel
set_option maxRecDepth 1000000 in
theorem cj_a174_0 : e2_idh 2 8 h_a174_0 = true := by decide +kernel
theorem cs_a174 (hen : en_ok) (l : Launch) : e2_smOk l 1 s_a174 := by
  refine e2_conG (H := 0) (n := 0) (C := evd_48) (S := S_a174) (I := I_a174) (fuel := 4000) hen ei_48 e2_fz e2_fz (by decide) co_a174 fun M d _ hC hcall p e R s m args below meth c Q D cA A ads r0 ha hl0 => ?_
  have L_0 : e2_gdM M p l e R s m args below meth c Q D cA A ads r0 3 al_a174_0 [] E_a174_0 h_a174_0 := by
    refine e2_indL (u := 2) (j := 4) (lo := 2147483648) (hi := 2147483655) (b := 2) (dd := 0) hl0 (by decide) rfl rfl (Or.inr ⟨rfl, rfl⟩) rfl ci_a174_0 cj_a174_0 ?_
    intro r_0 k_0 hk_0 hp_0 hs_0 hn_0
    have hl_0 : r_0.length ≤ 3 := hs_0.len rfl
    have ha_0 := ha.ext hp_0
    exact e2_fromM hen ha_0 hcall (e2_cutA_ok (e2_fa (fun al st E h hc => hn_0 al st E h hc) e2_fz)) (hC []) (X := e2x_48) ex2_48 3 ck_a174_0
  have EN_0 := e2_entL (u := 2) (j := 4) (lo := 2147483648) (hi := 2147483655) hl0 rfl rfl rfl ci_a174_0 cj_a174_0 L_0
  exact e2_from hen ha hcall (e2_cutA_ok (e2_fa (fun al st E h hc => EN_0 al st E h hc) e2_fz)) (hC []) (X := e2x_48) ex2_48 0 ck_a174_e
/-! a175 X3_isNewName -/
def as_a175 : List ev_V := [(2, 33, 0), (2, 20, 0), (11, 2147483648, 2147483655)]
def E_a175 : e2_E := [(2147483648, 2147583648, 0, 0), (2147483652, 2147483668, 1, 0), (2147483648, 2147485248, 2, 0)]
def an673 : e2_Q7 := (an657, an268)
def an674 : e2_Q8 := (an673, an636)
noncomputable def f_a175 : ev_H := (an674 : e2_Q8)
noncomputable def q_a175_0 : ev_H := (an674 : e2_Q8)
noncomputable def rs_a175 : e2_Rs := [((11, 2147483648, 2147483649), q_a175_0)]
noncomputable def s_a175 : e2_Sm := (49, as_a175, E_a175, f_a175, rs_a175)
noncomputable def S_a175 : List e2_Sm := [s_a174]
noncomputable def I_a175 : List e2_In := [(43, 2, e2x_43), (44, 3, e2x_44)]
set_option maxRecDepth 1000000 in
theorem ck_a175 : e2_run (e2_cal S_a175 I_a175 4000 2) (e2_fin rs_a175) e2x_49 (fun _ => false) (fun _ _ _ _ _ => false) 4000 (e2_seek e2x_49 0) (e2_al 3 as_a175) [] E_a175 f_a175 = true := by decide +kernel
set_option maxRecDepth 1000000 in
theorem co_a175 : e2_okSB E_a175.length as_a175 f_a175 rs_a175 = true := by decide +kernel
theorem cs_a175 (hen : en_ok) (l : Launch) : e2_smOk l 4 s_a175 := e2_con0 (H := 1) (n := 2) (C := evd_49) (S := S_a175) (I := I_a175) (fuel := 4000) [] hen ei_49 (e2_fa (cs_a174 hen l) e2_fz) (e2_fa ein_43 (e2_fa ein_44 e2_fz)) (by decide) co_a175 ex2_49 ck_a175
/-! a176 X3_passValue -/
def as_a176 : List ev_V := [(2, 33, 0)]
def E_a176 : e2_E := [(2147483648, 2147583648, 0, 0), (2147483652, 2147483668, 1, 0), (2147483648, 2147485248, 2, 0)]
noncomputable def f_a176 : ev_H := (an600 : e2_Q8)
noncomputable def q_a176_0 : ev_H := (an600 : e2_Q8)
noncomputable def rs_a176 : e2_Rs := [((11, 2147483648, 2147483649), q_a176_0)]
noncomputable def s_a176 : e2_Sm := (54, as_a176, E_a176, f_a176, rs_a176)
noncomputable def S_a176 : List e2_Sm := [s_a38]
noncomputable def I_a176 : List e2_In := [(43, 2, e2x_43), (44, 3, e2x_44)]
set_option maxRecDepth 1000000 in
theorem ck_a176 : e2_run (e2_cal S_a176 I_a176 4000 2) (e2_fin rs_a176) e2x_54 (fun _ => false) (fun _ _ _ _ _ => false) 4000 (e2_seek e2x_54 0) (e2_al 3 as_a176) [] E_a176 f_a176 = true := by decide +kernel
set_option maxRecDepth 1000000 in
theorem co_a176 : e2_okSB E_a176.length as_a176 f_a176 rs_a176 = true := by decide +kernel
theorem cs_a176 (hen : en_ok) (l : Launch) (hh : e2_hand_a l) : e2_smOk l 65 s_a176 := e2_con0 (H := 62) (n := 2) (C := evd_54) (S := S_a176) (I := I_a176) (fuel := 4000) [] hen ei_54 (e2_fa (cs_a38 hen l hh) e2_fz) (e2_fa ein_43 (e2_fa ein_44 e2_fz)) (by decide) co_a176 ex2_54 ck_a176
/-! a177 X3_parseSign -/
def as_a177 : List ev_V := [(2, 33, 0)]
def E_a177 : e2_E := [(2147483648, 2147583648, 0, 0), (2147483652, 2147483668, 1, 0), (2147483648, 2147485248, 2, 0)]
def an675 : e2_Q2 := (an282, an23)
def an676 : e2_Q3 := (an675, an27)
def an677 : e2_Q4 := (an21, an676)
def an678 : e2_Q5 := (an14, an677)
def an679 : e2_Q4 := (an289, an654)
def an680 : e2_Q5 := (an679, an60)
def an681 : e2_Q6 := (an678, an680)
def ac176 : ev_C := (53, [(0, 4, 0)])
def an682 : e2_Q1 := (ac176, ac3)
def an683 : e2_Q2 := (an682, an71)
def an684 : e2_Q3 := (an683, an391)
def an685 : e2_Q4 := (an265, an684)
def an686 : e2_Q5 := (an685, an92)
def an687 : e2_Q4 := (an312, an400)
def an688 : e2_Q5 := (an687, an123)
def an689 : e2_Q6 := (an686, an688)
def an690 : e2_Q7 := (an681, an689)
def an691 : e2_Q2 := (an158, an332)
def an692 : e2_Q3 := (an691, an163)
def an693 : e2_Q2 := (an282, an166)
def an694 : e2_Q3 := (an693, an336)
def an695 : e2_Q4 := (an692, an694)
def an696 : e2_Q5 := (an695, an187)
def an697 : e2_Q6 := (an602, an696)
def an698 : e2_Q4 := (an196, an342)
def an699 : e2_Q5 := (an698, an219)
def ac177 : ev_C := (54, [(0, 8, 0), (11, 2147483648, 2147483651)])
def an700 : e2_Q1 := (ac177, ac3)
def an701 : e2_Q2 := (an700, an229)
def an702 : e2_Q3 := (an701, an233)
def an703 : e2_Q4 := (an346, an702)
def an704 : e2_Q5 := (an703, an250)
def an705 : e2_Q6 := (an699, an704)
def an706 : e2_Q7 := (an697, an705)
def an707 : e2_Q8 := (an690, an706)
noncomputable def f_a177 : ev_H := (an707 : e2_Q8)
noncomputable def q_a177_0 : ev_H := (an707 : e2_Q8)
noncomputable def rs_a177 : e2_Rs := [((11, 2147483648, 2147483649), q_a177_0)]
noncomputable def s_a177 : e2_Sm := (53, as_a177, E_a177, f_a177, rs_a177)
noncomputable def S_a177 : List e2_Sm := [s_a38, s_a39, s_a175, s_a176]
noncomputable def I_a177 : List e2_In := [(43, 2, e2x_43), (44, 3, e2x_44), (115, 1, e2x_115), (116, 3, e2x_116), (119, 7, e2x_119), (159, 2, e2x_159)]
set_option maxRecDepth 1000000 in
theorem co_a177 : e2_okSB E_a177.length as_a177 f_a177 rs_a177 = true := by decide +kernel
noncomputable def cm_a177_0 : List (Nat × e2_S) := []
noncomputable def cm_a177_1 : List (Nat × e2_S) := [(121, nm_S (fun pc => e2_run (e2_cal S_a177 I_a177 4000 2) (e2_fin rs_a177) e2x_53 (e2_bpL cm_a177_0) (e2_cutA cm_a177_0) 4000 (e2_seek e2x_53 pc)) 17 12 6 18 4 142 170 5)]
set_option maxRecDepth 1000000 in
theorem ck_a177 : e2_run (e2_cal S_a177 I_a177 4000 2) (e2_fin rs_a177) e2x_53 (e2_bpL cm_a177_1) (e2_cutA cm_a177_1) 4000 (e2_seek e2x_53 0) (e2_al 6 as_a177) [] E_a177 f_a177 = true := by decide +kernel
theorem cs_a177 (hen : en_ok) (l : Launch) (hh : e2_hand_a l) : e2_smOk l 68 s_a177 := by
  refine e2_conD (H := 65) (n := 2) (C := evd_53) (S := S_a177) (I := I_a177) (fuel := 4000) hen ei_53 (e2_fa ((cs_a38 hen l hh).mono (by decide)) (e2_fa (cs_a39 hen l hh) (e2_fa ((cs_a175 hen l).mono (by decide)) (e2_fa (cs_a176 hen l hh) e2_fz)))) (e2_fa ein_43 (e2_fa ein_44 (e2_fa ein_115 (e2_fa ein_116 (e2_fa ein_119 (e2_fa ein_159 e2_fz)))))) (by decide) co_a177 fun M d hd _ hC hcall p e R s m args below meth c Q D cA A ads r0 ha hl0 => ?_
  have K0 : ∀ pc al st E h, e2_run (e2_cal S_a177 I_a177 4000 2) (e2_fin rs_a177) e2x_53 (e2_bpL cm_a177_0) (e2_cutA cm_a177_0) 4000 (e2_seek e2x_53 pc) al st E h = true → e2_gdM M p l e R s m args below meth c Q D cA A ads r0 pc al st E h := fun pc al st E h hr => e2_from hen ha hcall (e2_cutA_ok e2_fz) (hC []) (X := e2x_53) ex2_53 pc hr
  have S1 : ∀ al st E h, nm_S (fun pc => e2_run (e2_cal S_a177 I_a177 4000 2) (e2_fin rs_a177) e2x_53 (e2_bpL cm_a177_0) (e2_cutA cm_a177_0) 4000 (e2_seek e2x_53 pc)) 17 12 6 18 4 142 170 5 al st E h = true → e2_gdM M p l e R s m args below meth c Q D cA A ads r0 121 al st E h := fun al st E h hh => by
    obtain ⟨rfl, g1, g2, g3, g4, g5⟩ := nm_S_t hh
    exact nm_macro [] hen hC ex2_53 ha (by omega) (by decide) (by decide) (by decide) (by decide) g1 a53_121 a53_122 a53_123 a53_126 a53_129 a53_130 a53_133 a53_136 a53_139 a53_144 a53_145 a53_148 a53_151 a53_152 a53_155 a53_158 a53_159 a53_162 a53_165 a53_168 g3 g4 (K0 _ _ _ _ _ g2) (K0 _ _ _ _ _ g5)
  have K1 : ∀ pc al st E h, e2_run (e2_cal S_a177 I_a177 4000 2) (e2_fin rs_a177) e2x_53 (e2_bpL cm_a177_1) (e2_cutA cm_a177_1) 4000 (e2_seek e2x_53 pc) al st E h = true → e2_gdM M p l e R s m args below meth c Q D cA A ads r0 pc al st E h := fun pc al st E h hr => e2_from hen ha hcall (e2_cutA_ok (e2_fa S1 e2_fz)) (hC []) (X := e2x_53) ex2_53 pc hr
  exact K1 0 _ _ _ _ ck_a177
/-! a178 X3_passNumber -/
def as_a178 : List ev_V := [(2, 33, 0), (0, 4, 0), (0, 20, 0)]
def E_a178 : e2_E := [(2147483648, 2147583648, 0, 0), (2147483652, 2147483668, 1, 0), (2147483648, 2147485248, 2, 0)]
noncomputable def f_a178 : ev_H := (an600 : e2_Q8)
noncomputable def q_a178_0 : ev_H := (an613 : e2_Q8)
def ac178 : ev_C := (3, [(2, 34, 0), (2, 17, 0), (1, 2, 4294967296), (11, 2147483648, 2147483649), (11, 0, 4294967295), (11, 2147483652, 2147483668), (11, 0, 4294967295), (11, 0, 4294967295)])
def an708 : e2_Q1 := (ac178, ac3)
def an709 : e2_Q2 := (an708, an131)
def an710 : e2_Q3 := (an129, an709)
def an711 : e2_Q4 := (an710, an140)
def an712 : e2_Q5 := (an711, an156)
def an713 : e2_Q6 := (an712, an188)
def an714 : e2_Q7 := (an713, an252)
def an715 : e2_Q8 := (an269, an714)
noncomputable def q_a178_1 : ev_H := (an715 : e2_Q8)
noncomputable def rs_a178 : e2_Rs := [((0, 0, 0), q_a178_0), ((0, 1, 0), q_a178_1)]
noncomputable def s_a178 : e2_Sm := (47, as_a178, E_a178, f_a178, rs_a178)
noncomputable def S_a178 : List e2_Sm := [s_a38]
noncomputable def I_a178 : List e2_In := [(43, 2, e2x_43), (44, 3, e2x_44), (46, 3, e2x_46)]
set_option maxRecDepth 1000000 in
theorem ck_a178 : e2_run (e2_cal S_a178 I_a178 4000 3) (e2_fin rs_a178) e2x_47 (fun _ => false) (fun _ _ _ _ _ => false) 4000 (e2_seek e2x_47 0) (e2_al 3 as_a178) [] E_a178 f_a178 = true := by decide +kernel
set_option maxRecDepth 1000000 in
theorem co_a178 : e2_okSB E_a178.length as_a178 f_a178 rs_a178 = true := by decide +kernel
theorem cs_a178 (hen : en_ok) (l : Launch) (hh : e2_hand_a l) : e2_smOk l 66 s_a178 := e2_con0 (H := 62) (n := 3) (C := evd_47) (S := S_a178) (I := I_a178) (fuel := 4000) [] hen ei_47 (e2_fa (cs_a38 hen l hh) e2_fz) (e2_fa ein_43 (e2_fa ein_44 (e2_fa ein_46 e2_fz))) (by decide) co_a178 ex2_47 ck_a178
/-! a179 X3_parseSize -/
def as_a179 : List ev_V := [(2, 33, 0)]
def E_a179 : e2_E := [(2147483648, 2147583648, 0, 0), (2147483652, 2147483668, 1, 0), (2147483648, 2147485248, 2, 0)]
noncomputable def f_a179 : ev_H := (an605 : e2_Q8)
noncomputable def q_a179_0 : ev_H := (an605 : e2_Q8)
noncomputable def rs_a179 : e2_Rs := [((11, 2147483648, 2147483649), q_a179_0)]
noncomputable def s_a179 : e2_Sm := (51, as_a179, E_a179, f_a179, rs_a179)
noncomputable def S_a179 : List e2_Sm := [s_a38, s_a39, s_a178]
noncomputable def I_a179 : List e2_In := [(43, 2, e2x_43), (44, 3, e2x_44)]
set_option maxRecDepth 1000000 in
theorem ck_a179 : e2_run (e2_cal S_a179 I_a179 4000 2) (e2_fin rs_a179) e2x_51 (fun _ => false) (fun _ _ _ _ _ => false) 4000 (e2_seek e2x_51 0) (e2_al 1 as_a179) [] E_a179 f_a179 = true := by decide +kernel
set_option maxRecDepth 1000000 in
theorem co_a179 : e2_okSB E_a179.length as_a179 f_a179 rs_a179 = true := by decide +kernel
theorem cs_a179 (hen : en_ok) (l : Launch) (hh : e2_hand_a l) : e2_smOk l 69 s_a179 := e2_con0 (H := 66) (n := 2) (C := evd_51) (S := S_a179) (I := I_a179) (fuel := 4000) [] hen ei_51 (e2_fa ((cs_a38 hen l hh).mono (by decide)) (e2_fa ((cs_a39 hen l hh).mono (by decide)) (e2_fa (cs_a178 hen l hh) e2_fz))) (e2_fa ein_43 (e2_fa ein_44 e2_fz)) (by decide) co_a179 ex2_51 ck_a179
/-! a180 X3_indexOf -/
def as_a180 : List ev_V := [(5, 0, 0), (2, 18, 0), (11, 2147483648, 2147483651)]
def E_a180 : e2_E := [(2147483648, 2147583648, 0, 0), (2147483652, 2147483668, 1, 0)]
def an716 : e2_Q3 := (an683, an75)
def an717 : e2_Q4 := (an298, an716)
def an718 : e2_Q5 := (an717, an92)
def an719 : e2_Q6 := (an718, an124)
def an720 : e2_Q7 := (an62, an719)
def an721 : e2_Q8 := (an720, an276)
noncomputable def f_a180 : ev_H := (an721 : e2_Q8)
noncomputable def q_a180_0 : ev_H := (an721 : e2_Q8)
noncomputable def rs_a180 : e2_Rs := [((11, 2147483647, 2147483650), q_a180_0)]
noncomputable def s_a180 : e2_Sm := (48, as_a180, E_a180, f_a180, rs_a180)
noncomputable def S_a180 : List e2_Sm := []
noncomputable def I_a180 : List e2_In := []
set_option maxRecDepth 1000000 in
theorem co_a180 : e2_okSB E_a180.length as_a180 f_a180 rs_a180 = true := by decide +kernel
def al_a180_0 : List ev_V := [(5, 0, 0), (9, 0, 0), (2, 18, 0), (11, 2147483648, 2147483651), (1, 2, 4294967296)]
def E_a180_0 : e2_E := [(2147483648, 2147583648, 0, 0), (2147483652, 2147483668, 1, 0), (2147483648, 2147483651, 2, 0)]
noncomputable def h_a180_0 : ev_H := (an721 : e2_Q8)
noncomputable def cl_a180_e : List (Nat × e2_S) := [(3, e2_cutL (al_a180_0.set 4 (11, 2147483648, 2147483651)) 2 (E_a180_0.take 2) h_a180_0)]
set_option maxRecDepth 1000000 in
theorem ck_a180_e : e2_run (e2_cal S_a180 I_a180 4000 0) (e2_fin rs_a180) e2x_48 (e2_bpL cl_a180_e) (e2_cutA cl_a180_e) 4000 (e2_seek e2x_48 0) (e2_al 5 as_a180) [] E_a180 f_a180 = true := by decide +kernel
noncomputable def cl_a180_0 : List (Nat × e2_S) := [(3, e2_cutL (al_a180_0.set 4 (13, 10, 2147483651)) 2 (E_a180_0.take 2) h_a180_0)]
set_option maxRecDepth 1000000 in
theorem ck_a180_0 : e2_runM (e2_cal S_a180 I_a180 4000 0) (e2_fin rs_a180) e2x_48 (e2_bpL cl_a180_0) (e2_cutA cl_a180_0) 4000 (e2_seek e2x_48 3) al_a180_0 [] E_a180_0 h_a180_0 = true := by decide +kernel
set_option maxRecDepth 1000000 in
theorem ci_a180_0 : e2_idl 2 (al_a180_0.set 4 (9, 0, 0)) = true := by decide +kernel
set_option maxRecDepth 1000000 in
theorem cj_a180_0 : e2_idh 2 8 h_a180_0 = true := by decide +kernel
theorem cs_a180 (hen : en_ok) (l : Launch) : e2_smOk l 1 s_a180 := by
  refine e2_conG (H := 0) (n := 0) (C := evd_48) (S := S_a180) (I := I_a180) (fuel := 4000) hen ei_48 e2_fz e2_fz (by decide) co_a180 fun M d _ hC hcall p e R s m args below meth c Q D cA A ads r0 ha hl0 => ?_
  have L_0 : e2_gdM M p l e R s m args below meth c Q D cA A ads r0 3 al_a180_0 [] E_a180_0 h_a180_0 := by
    refine e2_indL (u := 2) (j := 4) (lo := 2147483648) (hi := 2147483651) (b := 2) (dd := 0) hl0 (by decide) rfl rfl (Or.inr ⟨rfl, rfl⟩) rfl ci_a180_0 cj_a180_0 ?_
    intro r_0 k_0 hk_0 hp_0 hs_0 hn_0
    have hl_0 : r_0.length ≤ 3 := hs_0.len rfl
    have ha_0 := ha.ext hp_0
    exact e2_fromM hen ha_0 hcall (e2_cutA_ok (e2_fa (fun al st E h hc => hn_0 al st E h hc) e2_fz)) (hC []) (X := e2x_48) ex2_48 3 ck_a180_0
  have EN_0 := e2_entL (u := 2) (j := 4) (lo := 2147483648) (hi := 2147483651) hl0 rfl rfl rfl ci_a180_0 cj_a180_0 L_0
  exact e2_from hen ha hcall (e2_cutA_ok (e2_fa (fun al st E h hc => EN_0 al st E h hc) e2_fz)) (hC []) (X := e2x_48) ex2_48 0 ck_a180_e
/-! a181 X3_isNewName -/
def as_a181 : List ev_V := [(2, 33, 0), (2, 18, 0), (11, 2147483648, 2147483651)]
def E_a181 : e2_E := [(2147483648, 2147583648, 0, 0), (2147483652, 2147483668, 1, 0), (2147483648, 2147485248, 2, 0)]
def an722 : e2_Q4 := (an265, an716)
def an723 : e2_Q5 := (an722, an92)
def an724 : e2_Q6 := (an723, an124)
def an725 : e2_Q7 := (an62, an724)
def an726 : e2_Q8 := (an725, an636)
noncomputable def f_a181 : ev_H := (an726 : e2_Q8)
noncomputable def q_a181_0 : ev_H := (an726 : e2_Q8)
noncomputable def rs_a181 : e2_Rs := [((11, 2147483648, 2147483649), q_a181_0)]
noncomputable def s_a181 : e2_Sm := (49, as_a181, E_a181, f_a181, rs_a181)
noncomputable def S_a181 : List e2_Sm := [s_a180]
noncomputable def I_a181 : List e2_In := [(43, 2, e2x_43), (44, 3, e2x_44)]
set_option maxRecDepth 1000000 in
theorem ck_a181 : e2_run (e2_cal S_a181 I_a181 4000 2) (e2_fin rs_a181) e2x_49 (fun _ => false) (fun _ _ _ _ _ => false) 4000 (e2_seek e2x_49 0) (e2_al 3 as_a181) [] E_a181 f_a181 = true := by decide +kernel
set_option maxRecDepth 1000000 in
theorem co_a181 : e2_okSB E_a181.length as_a181 f_a181 rs_a181 = true := by decide +kernel
theorem cs_a181 (hen : en_ok) (l : Launch) : e2_smOk l 4 s_a181 := e2_con0 (H := 1) (n := 2) (C := evd_49) (S := S_a181) (I := I_a181) (fuel := 4000) [] hen ei_49 (e2_fa (cs_a180 hen l) e2_fz) (e2_fa ein_43 (e2_fa ein_44 e2_fz)) (by decide) co_a181 ex2_49 ck_a181
/-! a182 X3_passNumber -/
def as_a182 : List ev_V := [(2, 33, 0), (0, 0, 0), (0, 99, 0)]
def E_a182 : e2_E := [(2147483648, 2147583648, 0, 0), (2147483652, 2147483668, 1, 0), (2147483648, 2147485248, 2, 0)]
noncomputable def f_a182 : ev_H := (an600 : e2_Q8)
noncomputable def q_a182_0 : ev_H := (an613 : e2_Q8)
def ac179 : ev_C := (3, [(2, 34, 0), (2, 17, 0), (1, 2, 4294967296), (11, 2147483648, 2147483649), (11, 0, 4294967295), (11, 2147483648, 2147483747), (11, 0, 4294967295), (11, 0, 4294967295)])
def an727 : e2_Q1 := (ac179, ac3)
def an728 : e2_Q2 := (an727, an131)
def an729 : e2_Q3 := (an129, an728)
def an730 : e2_Q4 := (an729, an140)
def an731 : e2_Q5 := (an730, an156)
def an732 : e2_Q6 := (an731, an188)
def an733 : e2_Q7 := (an732, an252)
def an734 : e2_Q8 := (an269, an733)
noncomputable def q_a182_1 : ev_H := (an734 : e2_Q8)
noncomputable def rs_a182 : e2_Rs := [((0, 0, 0), q_a182_0), ((0, 1, 0), q_a182_1)]
noncomputable def s_a182 : e2_Sm := (47, as_a182, E_a182, f_a182, rs_a182)
noncomputable def S_a182 : List e2_Sm := [s_a38]
noncomputable def I_a182 : List e2_In := [(43, 2, e2x_43), (44, 3, e2x_44), (46, 3, e2x_46)]
set_option maxRecDepth 1000000 in
theorem ck_a182 : e2_run (e2_cal S_a182 I_a182 4000 3) (e2_fin rs_a182) e2x_47 (fun _ => false) (fun _ _ _ _ _ => false) 4000 (e2_seek e2x_47 0) (e2_al 3 as_a182) [] E_a182 f_a182 = true := by decide +kernel
set_option maxRecDepth 1000000 in
theorem co_a182 : e2_okSB E_a182.length as_a182 f_a182 rs_a182 = true := by decide +kernel
theorem cs_a182 (hen : en_ok) (l : Launch) (hh : e2_hand_a l) : e2_smOk l 66 s_a182 := e2_con0 (H := 62) (n := 3) (C := evd_47) (S := S_a182) (I := I_a182) (fuel := 4000) [] hen ei_47 (e2_fa (cs_a38 hen l hh) e2_fz) (e2_fa ein_43 (e2_fa ein_44 (e2_fa ein_46 e2_fz))) (by decide) co_a182 ex2_47 ck_a182
/-! a183 X3_parseThing -/
def as_a183 : List ev_V := [(2, 33, 0)]
def E_a183 : e2_E := [(2147483648, 2147583648, 0, 0), (2147483652, 2147483668, 1, 0), (2147483648, 2147485248, 2, 0)]
def an735 : e2_Q4 := (an196, an469)
def an736 : e2_Q5 := (an735, an219)
def an737 : e2_Q6 := (an736, an251)
def an738 : e2_Q7 := (an603, an737)
def an739 : e2_Q8 := (an725, an738)
noncomputable def f_a183 : ev_H := (an739 : e2_Q8)
noncomputable def q_a183_0 : ev_H := (an739 : e2_Q8)
noncomputable def rs_a183 : e2_Rs := [((11, 2147483648, 2147483649), q_a183_0)]
noncomputable def s_a183 : e2_Sm := (52, as_a183, E_a183, f_a183, rs_a183)
noncomputable def S_a183 : List e2_Sm := [s_a38, s_a39, s_a181, s_a182]
noncomputable def I_a183 : List e2_In := [(43, 2, e2x_43), (44, 3, e2x_44), (118, 4, e2x_118)]
set_option maxRecDepth 1000000 in
theorem ck_a183 : e2_run (e2_cal S_a183 I_a183 4000 2) (e2_fin rs_a183) e2x_52 (fun _ => false) (fun _ _ _ _ _ => false) 4000 (e2_seek e2x_52 0) (e2_al 3 as_a183) [] E_a183 f_a183 = true := by decide +kernel
set_option maxRecDepth 1000000 in
theorem co_a183 : e2_okSB E_a183.length as_a183 f_a183 rs_a183 = true := by decide +kernel
theorem cs_a183 (hen : en_ok) (l : Launch) (hh : e2_hand_a l) : e2_smOk l 69 s_a183 := e2_con0 (H := 66) (n := 2) (C := evd_52) (S := S_a183) (I := I_a183) (fuel := 4000) [] hen ei_52 (e2_fa ((cs_a38 hen l hh).mono (by decide)) (e2_fa ((cs_a39 hen l hh).mono (by decide)) (e2_fa ((cs_a181 hen l).mono (by decide)) (e2_fa (cs_a182 hen l hh) e2_fz)))) (e2_fa ein_43 (e2_fa ein_44 (e2_fa ein_118 e2_fz))) (by decide) co_a183 ex2_52 ck_a183
/-! a184 X7_begin -/
def as_a184 : List ev_V := [(2, 34, 0)]
def E_a184 : e2_E := [(2147483648, 2147583648, 0, 0), (2147483652, 2147483668, 1, 0)]
noncomputable def f_a184 : ev_H := (an584 : e2_Q8)
noncomputable def q_a184_0 : ev_H := (an584 : e2_Q8)
noncomputable def rs_a184 : e2_Rs := [((9, 0, 0), q_a184_0)]
noncomputable def s_a184 : e2_Sm := (107, as_a184, E_a184, f_a184, rs_a184)
noncomputable def S_a184 : List e2_Sm := [s_a38]
noncomputable def I_a184 : List e2_In := []
set_option maxRecDepth 1000000 in
theorem ck_a184 : e2_run (e2_cal S_a184 I_a184 4000 0) (e2_fin rs_a184) e2x_107 (fun _ => false) (fun _ _ _ _ _ => false) 4000 (e2_seek e2x_107 0) (e2_al 1 as_a184) [] E_a184 f_a184 = true := by decide +kernel
set_option maxRecDepth 1000000 in
theorem co_a184 : e2_okSB E_a184.length as_a184 f_a184 rs_a184 = true := by decide +kernel
theorem cs_a184 (hen : en_ok) (l : Launch) (hh : e2_hand_a l) : e2_smOk l 63 s_a184 := e2_con0 (H := 62) (n := 0) (C := evd_107) (S := S_a184) (I := I_a184) (fuel := 4000) [] hen ei_107 (e2_fa (cs_a38 hen l hh) e2_fz) e2_fz (by decide) co_a184 ex2_107 ck_a184
/-! a185 X8_clear -/
def as_a185 : List ev_V := [(2, 17, 0)]
def E_a185 : e2_E := [(2147483648, 2147583648, 0, 0), (2147483652, 2147483668, 1, 0)]
def an740 : e2_Q5 := (an453, an660)
def an741 : e2_Q6 := (an740, an642)
def an742 : e2_Q7 := (an62, an741)
def an743 : e2_Q5 := (an460, an666)
def an744 : e2_Q6 := (an743, an188)
def an745 : e2_Q5 := (an273, an631)
def an746 : e2_Q6 := (an745, an251)
def an747 : e2_Q7 := (an744, an746)
def an748 : e2_Q8 := (an742, an747)
noncomputable def f_a185 : ev_H := (an748 : e2_Q8)
noncomputable def q_a185_0 : ev_H := (an748 : e2_Q8)
noncomputable def rs_a185 : e2_Rs := [((9, 0, 0), q_a185_0)]
noncomputable def s_a185 : e2_Sm := (117, as_a185, E_a185, f_a185, rs_a185)
noncomputable def S_a185 : List e2_Sm := []
noncomputable def I_a185 : List e2_In := [(16, 1, e2x_16)]
set_option maxRecDepth 1000000 in
theorem co_a185 : e2_okSB E_a185.length as_a185 f_a185 rs_a185 = true := by decide +kernel
def al_a185_0 : List ev_V := [(2, 17, 0), (1, 2, 4294967296)]
def E_a185_0 : e2_E := [(2147483648, 2147583648, 0, 0), (2147483652, 2147483668, 1, 0), (2147483648, 2147483656, 2, 0)]
noncomputable def h_a185_0 : ev_H := (an748 : e2_Q8)
noncomputable def cl_a185_e : List (Nat × e2_S) := [(52, e2_cutL (al_a185_0.set 1 (11, 2147483648, 2147483656)) 2 (E_a185_0.take 2) h_a185_0)]
set_option maxRecDepth 1000000 in
theorem ck_a185_e : e2_run (e2_cal S_a185 I_a185 4000 1) (e2_fin rs_a185) e2x_117 (e2_bpL cl_a185_e) (e2_cutA cl_a185_e) 4000 (e2_seek e2x_117 0) (e2_al 2 as_a185) [] E_a185 f_a185 = true := by decide +kernel
noncomputable def cl_a185_0 : List (Nat × e2_S) := [(52, e2_cutL (al_a185_0.set 1 (13, 10, 2147483656)) 2 (E_a185_0.take 2) h_a185_0)]
set_option maxRecDepth 1000000 in
theorem ck_a185_0 : e2_runM (e2_cal S_a185 I_a185 4000 1) (e2_fin rs_a185) e2x_117 (e2_bpL cl_a185_0) (e2_cutA cl_a185_0) 4000 (e2_seek e2x_117 52) al_a185_0 [] E_a185_0 h_a185_0 = true := by decide +kernel
set_option maxRecDepth 1000000 in
theorem ci_a185_0 : e2_idl 2 (al_a185_0.set 1 (9, 0, 0)) = true := by decide +kernel
set_option maxRecDepth 1000000 in
theorem cj_a185_0 : e2_idh 2 8 h_a185_0 = true := by decide +kernel
theorem cs_a185 (hen : en_ok) (l : Launch) : e2_smOk l 2 s_a185 := by
  refine e2_conG (H := 0) (n := 1) (C := evd_117) (S := S_a185) (I := I_a185) (fuel := 4000) hen ei_117 e2_fz (e2_fa ein_16 e2_fz) (by decide) co_a185 fun M d _ hC hcall p e R s m args below meth c Q D cA A ads r0 ha hl0 => ?_
  have L_0 : e2_gdM M p l e R s m args below meth c Q D cA A ads r0 52 al_a185_0 [] E_a185_0 h_a185_0 := by
    refine e2_indL (u := 2) (j := 1) (lo := 2147483648) (hi := 2147483656) (b := 2) (dd := 0) hl0 (by decide) rfl rfl (Or.inr ⟨rfl, rfl⟩) rfl ci_a185_0 cj_a185_0 ?_
    intro r_0 k_0 hk_0 hp_0 hs_0 hn_0
    have hl_0 : r_0.length ≤ 3 := hs_0.len rfl
    have ha_0 := ha.ext hp_0
    exact e2_fromM hen ha_0 hcall (e2_cutA_ok (e2_fa (fun al st E h hc => hn_0 al st E h hc) e2_fz)) (hC []) (X := e2x_117) ex2_117 52 ck_a185_0
  have EN_0 := e2_entL (u := 2) (j := 1) (lo := 2147483648) (hi := 2147483656) hl0 rfl rfl rfl ci_a185_0 cj_a185_0 L_0
  exact e2_from hen ha hcall (e2_cutA_ok (e2_fa (fun al st E h hc => EN_0 al st E h hc) e2_fz)) (hC []) (X := e2x_117) ex2_117 0 ck_a185_e
/-! a186 X3_parse -/
def as_a186 : List ev_V := [(2, 33, 0), (2, 17, 0)]
def E_a186 : e2_E := [(2147483648, 2147583648, 0, 0), (2147483652, 2147483668, 1, 0)]
def an749 : e2_Q5 := (an679, an624)
def an750 : e2_Q6 := (an678, an749)
def an751 : e2_Q5 := (an685, an660)
def an752 : e2_Q5 := (an687, an641)
def an753 : e2_Q6 := (an751, an752)
def an754 : e2_Q7 := (an750, an753)
def ac180 : ev_C := (3, [(2, 34, 0), (7, 0, 0), (11, 2147483648, 2147485248), (11, 2147483648, 2147483649), (11, 0, 4294967295), (11, 0, 4294967295), (11, 0, 4294967295), (11, 0, 4294967295)])
def an755 : e2_Q1 := (ac180, ac3)
def an756 : e2_Q2 := (an755, an131)
def an757 : e2_Q3 := (an129, an756)
def an758 : e2_Q4 := (an757, an459)
def an759 : e2_Q5 := (an758, an666)
def an760 : e2_Q6 := (an759, an696)
def an761 : e2_Q3 := (an468, an341)
def an762 : e2_Q4 := (an196, an761)
def an763 : e2_Q5 := (an762, an631)
def an764 : e2_Q5 := (an703, an647)
def an765 : e2_Q6 := (an763, an764)
def an766 : e2_Q7 := (an760, an765)
def an767 : e2_Q8 := (an754, an766)
noncomputable def f_a186 : ev_H := (an767 : e2_Q8)
def ac181 : ev_C := (3, [(2, 34, 0), (2, 17, 0), (11, 2147483648, 2147485248), (11, 2147483648, 2147483649), (11, 0, 4294967295), (11, 0, 4294967295), (11, 0, 4294967295), (11, 0, 4294967295)])
def an768 : e2_Q1 := (ac181, ac3)
def an769 : e2_Q2 := (an768, an131)
def an770 : e2_Q3 := (an129, an769)
def an771 : e2_Q4 := (an770, an459)
def an772 : e2_Q5 := (an771, an666)
def an773 : e2_Q6 := (an772, an696)
def an774 : e2_Q7 := (an773, an765)
def an775 : e2_Q8 := (an754, an774)
noncomputable def q_a186_0 : ev_H := (an775 : e2_Q8)
noncomputable def rs_a186 : e2_Rs := [((11, 2147483648, 2147483649), q_a186_0)]
noncomputable def s_a186 : e2_Sm := (42, as_a186, E_a186, f_a186, rs_a186)
noncomputable def S_a186 : List e2_Sm := [s_a40, s_a42, s_a107, s_a172, s_a173, s_a177, s_a179, s_a183, s_a184, s_a185]
noncomputable def I_a186 : List e2_In := [(43, 2, e2x_43), (44, 3, e2x_44)]
set_option maxRecDepth 1000000 in
theorem co_a186 : e2_okSB E_a186.length as_a186 f_a186 rs_a186 = true := by decide +kernel
def al_a186_0 : List ev_V := [(2, 33, 0), (2, 17, 0), (11, 2147483648, 2147483649)]
def E_a186_0 : e2_E := [(2147483648, 2147583648, 0, 0), (2147483652, 2147483668, 1, 0), (2147483648, 2147485248, 2, 0)]
def an776 : e2_Q6 := (an667, an696)
def an777 : e2_Q7 := (an776, an765)
def an778 : e2_Q8 := (an754, an777)
noncomputable def h_a186_0 : ev_H := (an778 : e2_Q8)
noncomputable def cl_a186_e : List (Nat × e2_S) := [(41, e2_cutL al_a186_0 2 (E_a186_0.take 2) (ev_hs h_a186_0 33 ((ev_hg h_a186_0 33).1, (ev_hg h_a186_0 33).2.set 2 (11, 2147483648, 2147485248))))]
set_option maxRecDepth 1000000 in
theorem ck_a186_e : e2_run (e2_cal S_a186 I_a186 4000 2) (e2_fin rs_a186) e2x_42 (e2_bpL cl_a186_e) (e2_cutA cl_a186_e) 4000 (e2_seek e2x_42 0) (e2_al 3 as_a186) [] E_a186 f_a186 = true := by decide +kernel
noncomputable def cl_a186_0 : List (Nat × e2_S) := [(41, e2_cutL al_a186_0 2 (E_a186_0.take 2) (ev_hs h_a186_0 33 ((ev_hg h_a186_0 33).1, (ev_hg h_a186_0 33).2.set 2 (13, 10, 2147485248))))]
set_option maxRecDepth 1000000 in
theorem ck_a186_0 : e2_runM (e2_cal S_a186 I_a186 4000 2) (e2_fin rs_a186) e2x_42 (e2_bpL cl_a186_0) (e2_cutA cl_a186_0) 4000 (e2_seek e2x_42 41) al_a186_0 [] E_a186_0 h_a186_0 = true := by decide +kernel
set_option maxRecDepth 1000000 in
theorem ci_a186_0 : e2_idl 2 al_a186_0 = true := by decide +kernel
set_option maxRecDepth 1000000 in
theorem cj_a186_0 : e2_idh 2 8 (ev_hs h_a186_0 33 ((ev_hg h_a186_0 33).1, (ev_hg h_a186_0 33).2.set 2 (7, 0, 0))) = true := by decide +kernel
set_option maxRecDepth 1000000 in
theorem cg_a186_0 : (ev_hg h_a186_0 33).1 < 50 ∧ (ev_hg h_a186_0 33).2[2]? = some (1, 2, 4294967296) := by decide +kernel
theorem cs_a186 (hen : en_ok) (l : Launch) (hh : e2_hand_a l) : e2_smOk l 220 s_a186 := by
  refine e2_conG (H := 217) (n := 2) (C := evd_42) (S := S_a186) (I := I_a186) (fuel := 4000) hen ei_42 (e2_fa ((cs_a40 hen l hh).mono (by decide)) (e2_fa ((cs_a42 hen l hh).mono (by decide)) (e2_fa (cs_a107 hen l hh) (e2_fa (cs_a172 hen l hh) (e2_fa ((cs_a173 hen l hh).mono (by decide)) (e2_fa ((cs_a177 hen l hh).mono (by decide)) (e2_fa ((cs_a179 hen l hh).mono (by decide)) (e2_fa ((cs_a183 hen l hh).mono (by decide)) (e2_fa ((cs_a184 hen l hh).mono (by decide)) (e2_fa ((cs_a185 hen l).mono (by decide)) e2_fz)))))))))) (e2_fa ein_43 (e2_fa ein_44 e2_fz)) (by decide) co_a186 fun M d _ hC hcall p e R s m args below meth c Q D cA A ads r0 ha hl0 => ?_
  have L_0 : e2_gdM M p l e R s m args below meth c Q D cA A ads r0 41 al_a186_0 [] E_a186_0 h_a186_0 := by
    refine e2_indH (u := 2) (a := 33) (j := 2) (lo := 2147483648) (hi := 2147485248) (b := 2) (dd := 0) hl0 (by decide) rfl rfl (Or.inr ⟨rfl, rfl⟩) (by decide) cg_a186_0.1 cg_a186_0.2 ci_a186_0 cj_a186_0 rfl ?_
    intro r_0 k_0 hk_0 hp_0 hs_0 hn_0
    have hl_0 : r_0.length ≤ 3 := hs_0.len rfl
    have ha_0 := ha.ext hp_0
    exact e2_fromM hen ha_0 hcall (e2_cutA_ok (e2_fa (fun al st E h hc => hn_0 al st E h hc) e2_fz)) (hC []) (X := e2x_42) ex2_42 41 ck_a186_0
  have EN_0 := e2_entH (u := 2) (a := 33) (j := 2) (lo := 2147483648) (hi := 2147485248) hl0 rfl rfl (by decide) cg_a186_0.1 cg_a186_0.2 ci_a186_0 cj_a186_0 rfl L_0
  exact e2_from hen ha hcall (e2_cutA_ok (e2_fa (fun al st E h hc => EN_0 al st E h hc) e2_fz)) (hC []) (X := e2x_42) ex2_42 0 ck_a186_e
