/-! CONTRACTS a, printed by a program -/
/-! a8 X0_join -/
def as_a8 : List ev_V := [(11, 0, 4294967295), (11, 0, 4294967295), (11, 0, 4294967295)]
def E_a8 : e2_E := [(2147483648, 2147583648, 0, 0), (2147483652, 2147483668, 1, 0)]
def an427 : e2_Q4 := (an275, an76)
def an428 : e2_Q5 := (an427, an92)
def an429 : e2_Q6 := (an428, an124)
def an430 : e2_Q7 := (an62, an429)
def an431 : e2_Q4 := (an320, an203)
def an432 : e2_Q5 := (an431, an219)
def an433 : e2_Q6 := (an432, an251)
def an434 : e2_Q7 := (an189, an433)
def an435 : e2_Q8 := (an430, an434)
noncomputable def f_a8 : ev_H := (an435 : e2_Q8)
noncomputable def q_a8_0 : ev_H := (an435 : e2_Q8)
noncomputable def rs_a8 : e2_Rs := [((11, 0, 4294967295), q_a8_0)]
noncomputable def s_a8 : e2_Sm := (22, as_a8, E_a8, f_a8, rs_a8)
noncomputable def S_a8 : List e2_Sm := []
noncomputable def I_a8 : List e2_In := []
set_option maxRecDepth 1000000 in
theorem ck_a8 : e2_run (e2_cal S_a8 I_a8 4000 0) (e2_fin rs_a8) e2x_22 (fun _ => false) (fun _ _ _ _ _ => false) 4000 (e2_seek e2x_22 0) (e2_al 3 as_a8) [] E_a8 f_a8 = true := by decide +kernel
set_option maxRecDepth 1000000 in
theorem co_a8 : e2_okSB E_a8.length as_a8 f_a8 rs_a8 = true := by decide +kernel
theorem cs_a8 (hen : en_ok) (l : Launch) : e2_smOk l 1 s_a8 := e2_con0 (H := 0) (n := 0) (C := evd_22) (S := S_a8) (I := I_a8) (fuel := 4000) [] hen ei_22 e2_fz e2_fz (by decide) co_a8 ex2_22 ck_a8
/-! a9 X0_valueBy -/
def as_a9 : List ev_V := [(2, 11, 0), (2, 49, 0)]
def E_a9 : e2_E := [(2147483648, 2147583648, 0, 0), (2147483652, 2147483668, 1, 0)]
def ac155 : ev_C := (54, [(0, 300, 0), (11, 0, 4294967295)])
def an436 : e2_Q1 := (ac155, ac3)
def an437 : e2_Q2 := (an436, an47)
def an438 : e2_Q3 := (an437, an51)
def an439 : e2_Q4 := (an438, an59)
def an440 : e2_Q5 := (an45, an439)
def an441 : e2_Q6 := (an30, an440)
def an442 : e2_Q7 := (an441, an429)
def ac156 : ev_C := (54, [(0, 6, 0), (11, 0, 4294967295)])
def an443 : e2_Q1 := (ac156, ac3)
def an444 : e2_Q2 := (an443, an138)
def an445 : e2_Q3 := (an136, an444)
def an446 : e2_Q4 := (an133, an445)
def an447 : e2_Q5 := (an446, an156)
def ac157 : ev_C := (54, [(0, 31, 0), (11, 0, 4294967295)])
def an448 : e2_Q1 := (ac157, ac3)
def an449 : e2_Q2 := (an448, an174)
def an450 : e2_Q3 := (an449, an178)
def an451 : e2_Q4 := (an450, an186)
def an452 : e2_Q5 := (an172, an451)
def an453 : e2_Q6 := (an447, an452)
def ac158 : ev_C := (0, [(2, 12, 0), (2, 13, 0), (11, 0, 4294967295), (11, 2147483648, 2147483948)])
def an454 : e2_Q1 := (ac158, ac3)
def an455 : e2_Q2 := (an454, an206)
def an456 : e2_Q3 := (an455, an210)
def an457 : e2_Q4 := (an456, an218)
def an458 : e2_Q5 := (an431, an457)
def an459 : e2_Q6 := (an458, an251)
def an460 : e2_Q7 := (an453, an459)
def an461 : e2_Q8 := (an442, an460)
noncomputable def f_a9 : ev_H := (an461 : e2_Q8)
noncomputable def q_a9_0 : ev_H := (an461 : e2_Q8)
noncomputable def rs_a9 : e2_Rs := [((11, 0, 4294967295), q_a9_0)]
noncomputable def s_a9 : e2_Sm := (21, as_a9, E_a9, f_a9, rs_a9)
noncomputable def S_a9 : List e2_Sm := [s_a8]
noncomputable def I_a9 : List e2_In := []
set_option maxRecDepth 1000000 in
theorem co_a9 : e2_okSB E_a9.length as_a9 f_a9 rs_a9 = true := by decide +kernel
def al_a9_0 : List ev_V := [(2, 11, 0), (2, 49, 0), (11, 2147483648, 2147483679), (1, 2, 4294967296), (9, 0, 0), (9, 0, 0)]
def E_a9_0 : e2_E := [(2147483648, 2147583648, 0, 0), (2147483652, 2147483668, 1, 0), (2147483648, 2147483948, 2, 0)]
noncomputable def h_a9_0 : ev_H := (an461 : e2_Q8)
noncomputable def cl_a9_e : List (Nat × e2_S) := [(16, e2_cutL (al_a9_0.set 3 (11, 2147483648, 2147483948)) 2 (E_a9_0.take 2) h_a9_0)]
set_option maxRecDepth 1000000 in
theorem ck_a9_e : e2_run (e2_cal S_a9 I_a9 4000 0) (e2_fin rs_a9) e2x_21 (e2_bpL cl_a9_e) (e2_cutA cl_a9_e) 4000 (e2_seek e2x_21 0) (e2_al 6 as_a9) [] E_a9 f_a9 = true := by decide +kernel
noncomputable def cl_a9_0 : List (Nat × e2_S) := [(16, e2_cutL (al_a9_0.set 3 (13, 10, 2147483948)) 2 (E_a9_0.take 2) h_a9_0)]
set_option maxRecDepth 1000000 in
theorem ck_a9_0 : e2_runM (e2_cal S_a9 I_a9 4000 0) (e2_fin rs_a9) e2x_21 (e2_bpL cl_a9_0) (e2_cutA cl_a9_0) 4000 (e2_seek e2x_21 16) al_a9_0 [] E_a9_0 h_a9_0 = true := by decide +kernel
set_option maxRecDepth 1000000 in
theorem ci_a9_0 : e2_idl 2 (al_a9_0.set 3 (9, 0, 0)) = true := by decide +kernel
set_option maxRecDepth 1000000 in
theorem cj_a9_0 : e2_idh 2 8 h_a9_0 = true := by decide +kernel
theorem cs_a9 (hen : en_ok) (l : Launch) : e2_smOk l 2 s_a9 := by
  refine e2_conG (H := 1) (n := 0) (C := evd_21) (S := S_a9) (I := I_a9) (fuel := 4000) hen ei_21 (e2_fa (cs_a8 hen l) e2_fz) e2_fz (by decide) co_a9 fun M d _ hC hcall p e R s m args below meth c Q D cA A ads r0 ha hl0 => ?_
  have L_0 : e2_gdM M p l e R s m args below meth c Q D cA A ads r0 16 al_a9_0 [] E_a9_0 h_a9_0 := by
    refine e2_indL (u := 2) (j := 3) (lo := 2147483648) (hi := 2147483948) (b := 2) (dd := 0) hl0 (by decide) rfl rfl (Or.inr ⟨rfl, rfl⟩) rfl ci_a9_0 cj_a9_0 ?_
    intro r_0 k_0 hk_0 hp_0 hs_0 hn_0
    have hl_0 : r_0.length ≤ 3 := hs_0.len rfl
    have ha_0 := ha.ext hp_0
    exact e2_fromM hen ha_0 hcall (e2_cutA_ok (e2_fa (fun al st E h hc => hn_0 al st E h hc) e2_fz)) (hC []) (X := e2x_21) ex2_21 16 ck_a9_0
  have EN_0 := e2_entL (u := 2) (j := 3) (lo := 2147483648) (hi := 2147483948) hl0 rfl rfl rfl ci_a9_0 cj_a9_0 L_0
  exact e2_from hen ha hcall (e2_cutA_ok (e2_fa (fun al st E h hc => EN_0 al st E h hc) e2_fz)) (hC []) (X := e2x_21) ex2_21 0 ck_a9_e
/-! a10 X0_valueBy -/
def as_a10 : List ev_V := [(2, 14, 0), (2, 39, 0)]
def E_a10 : e2_E := [(2147483648, 2147583648, 0, 0), (2147483652, 2147483668, 1, 0)]
def an462 : e2_Q2 := (an448, an8)
def an463 : e2_Q3 := (an462, an12)
def an464 : e2_Q4 := (an6, an463)
def an465 : e2_Q5 := (an464, an29)
def an466 : e2_Q6 := (an465, an61)
def ac159 : ev_C := (0, [(2, 15, 0), (2, 16, 0), (11, 0, 4294967295), (11, 2147483648, 2147483948)])
def an467 : e2_Q1 := (ac159, ac3)
def an468 : e2_Q2 := (an467, an110)
def an469 : e2_Q3 := (an468, an114)
def an470 : e2_Q4 := (an469, an122)
def an471 : e2_Q5 := (an108, an470)
def an472 : e2_Q6 := (an428, an471)
def an473 : e2_Q7 := (an466, an472)
def an474 : e2_Q2 := (an443, an225)
def an475 : e2_Q3 := (an223, an474)
def an476 : e2_Q4 := (an475, an234)
def an477 : e2_Q2 := (an436, an237)
def an478 : e2_Q3 := (an477, an241)
def an479 : e2_Q4 := (an478, an249)
def an480 : e2_Q5 := (an476, an479)
def an481 : e2_Q6 := (an432, an480)
def an482 : e2_Q7 := (an189, an481)
def an483 : e2_Q8 := (an473, an482)
noncomputable def f_a10 : ev_H := (an483 : e2_Q8)
noncomputable def q_a10_0 : ev_H := (an483 : e2_Q8)
noncomputable def rs_a10 : e2_Rs := [((11, 0, 4294967295), q_a10_0)]
noncomputable def s_a10 : e2_Sm := (21, as_a10, E_a10, f_a10, rs_a10)
noncomputable def S_a10 : List e2_Sm := [s_a8]
noncomputable def I_a10 : List e2_In := []
set_option maxRecDepth 1000000 in
theorem co_a10 : e2_okSB E_a10.length as_a10 f_a10 rs_a10 = true := by decide +kernel
def al_a10_0 : List ev_V := [(2, 14, 0), (2, 39, 0), (11, 2147483648, 2147483679), (1, 2, 4294967296), (9, 0, 0), (9, 0, 0)]
def E_a10_0 : e2_E := [(2147483648, 2147583648, 0, 0), (2147483652, 2147483668, 1, 0), (2147483648, 2147483948, 2, 0)]
noncomputable def h_a10_0 : ev_H := (an483 : e2_Q8)
noncomputable def cl_a10_e : List (Nat × e2_S) := [(16, e2_cutL (al_a10_0.set 3 (11, 2147483648, 2147483948)) 2 (E_a10_0.take 2) h_a10_0)]
set_option maxRecDepth 1000000 in
theorem ck_a10_e : e2_run (e2_cal S_a10 I_a10 4000 0) (e2_fin rs_a10) e2x_21 (e2_bpL cl_a10_e) (e2_cutA cl_a10_e) 4000 (e2_seek e2x_21 0) (e2_al 6 as_a10) [] E_a10 f_a10 = true := by decide +kernel
noncomputable def cl_a10_0 : List (Nat × e2_S) := [(16, e2_cutL (al_a10_0.set 3 (13, 10, 2147483948)) 2 (E_a10_0.take 2) h_a10_0)]
set_option maxRecDepth 1000000 in
theorem ck_a10_0 : e2_runM (e2_cal S_a10 I_a10 4000 0) (e2_fin rs_a10) e2x_21 (e2_bpL cl_a10_0) (e2_cutA cl_a10_0) 4000 (e2_seek e2x_21 16) al_a10_0 [] E_a10_0 h_a10_0 = true := by decide +kernel
set_option maxRecDepth 1000000 in
theorem ci_a10_0 : e2_idl 2 (al_a10_0.set 3 (9, 0, 0)) = true := by decide +kernel
set_option maxRecDepth 1000000 in
theorem cj_a10_0 : e2_idh 2 8 h_a10_0 = true := by decide +kernel
theorem cs_a10 (hen : en_ok) (l : Launch) : e2_smOk l 2 s_a10 := by
  refine e2_conG (H := 1) (n := 0) (C := evd_21) (S := S_a10) (I := I_a10) (fuel := 4000) hen ei_21 (e2_fa (cs_a8 hen l) e2_fz) e2_fz (by decide) co_a10 fun M d _ hC hcall p e R s m args below meth c Q D cA A ads r0 ha hl0 => ?_
  have L_0 : e2_gdM M p l e R s m args below meth c Q D cA A ads r0 16 al_a10_0 [] E_a10_0 h_a10_0 := by
    refine e2_indL (u := 2) (j := 3) (lo := 2147483648) (hi := 2147483948) (b := 2) (dd := 0) hl0 (by decide) rfl rfl (Or.inr ⟨rfl, rfl⟩) rfl ci_a10_0 cj_a10_0 ?_
    intro r_0 k_0 hk_0 hp_0 hs_0 hn_0
    have hl_0 : r_0.length ≤ 3 := hs_0.len rfl
    have ha_0 := ha.ext hp_0
    exact e2_fromM hen ha_0 hcall (e2_cutA_ok (e2_fa (fun al st E h hc => hn_0 al st E h hc) e2_fz)) (hC []) (X := e2x_21) ex2_21 16 ck_a10_0
  have EN_0 := e2_entL (u := 2) (j := 3) (lo := 2147483648) (hi := 2147483948) hl0 rfl rfl rfl ci_a10_0 cj_a10_0 L_0
  exact e2_from hen ha hcall (e2_cutA_ok (e2_fa (fun al st E h hc => EN_0 al st E h hc) e2_fz)) (hC []) (X := e2x_21) ex2_21 0 ck_a10_e
/-! a11 X0_valueBy -/
def as_a11 : List ev_V := [(2, 14, 0), (2, 43, 0)]
def E_a11 : e2_E := [(2147483648, 2147583648, 0, 0), (2147483652, 2147483668, 1, 0)]
def an484 : e2_Q2 := (an443, an209)
def an485 : e2_Q3 := (an207, an484)
def an486 : e2_Q4 := (an485, an218)
def an487 : e2_Q5 := (an431, an486)
def an488 : e2_Q5 := (an235, an479)
def an489 : e2_Q6 := (an487, an488)
def an490 : e2_Q7 := (an189, an489)
def an491 : e2_Q8 := (an473, an490)
noncomputable def f_a11 : ev_H := (an491 : e2_Q8)
noncomputable def q_a11_0 : ev_H := (an491 : e2_Q8)
noncomputable def rs_a11 : e2_Rs := [((11, 0, 4294967295), q_a11_0)]
noncomputable def s_a11 : e2_Sm := (21, as_a11, E_a11, f_a11, rs_a11)
noncomputable def S_a11 : List e2_Sm := [s_a8]
noncomputable def I_a11 : List e2_In := []
set_option maxRecDepth 1000000 in
theorem co_a11 : e2_okSB E_a11.length as_a11 f_a11 rs_a11 = true := by decide +kernel
def al_a11_0 : List ev_V := [(2, 14, 0), (2, 43, 0), (11, 2147483648, 2147483679), (1, 2, 4294967296), (9, 0, 0), (9, 0, 0)]
def E_a11_0 : e2_E := [(2147483648, 2147583648, 0, 0), (2147483652, 2147483668, 1, 0), (2147483648, 2147483948, 2, 0)]
noncomputable def h_a11_0 : ev_H := (an491 : e2_Q8)
noncomputable def cl_a11_e : List (Nat × e2_S) := [(16, e2_cutL (al_a11_0.set 3 (11, 2147483648, 2147483948)) 2 (E_a11_0.take 2) h_a11_0)]
set_option maxRecDepth 1000000 in
theorem ck_a11_e : e2_run (e2_cal S_a11 I_a11 4000 0) (e2_fin rs_a11) e2x_21 (e2_bpL cl_a11_e) (e2_cutA cl_a11_e) 4000 (e2_seek e2x_21 0) (e2_al 6 as_a11) [] E_a11 f_a11 = true := by decide +kernel
noncomputable def cl_a11_0 : List (Nat × e2_S) := [(16, e2_cutL (al_a11_0.set 3 (13, 10, 2147483948)) 2 (E_a11_0.take 2) h_a11_0)]
set_option maxRecDepth 1000000 in
theorem ck_a11_0 : e2_runM (e2_cal S_a11 I_a11 4000 0) (e2_fin rs_a11) e2x_21 (e2_bpL cl_a11_0) (e2_cutA cl_a11_0) 4000 (e2_seek e2x_21 16) al_a11_0 [] E_a11_0 h_a11_0 = true := by decide +kernel
set_option maxRecDepth 1000000 in
theorem ci_a11_0 : e2_idl 2 (al_a11_0.set 3 (9, 0, 0)) = true := by decide +kernel
set_option maxRecDepth 1000000 in
theorem cj_a11_0 : e2_idh 2 8 h_a11_0 = true := by decide +kernel
theorem cs_a11 (hen : en_ok) (l : Launch) : e2_smOk l 2 s_a11 := by
  refine e2_conG (H := 1) (n := 0) (C := evd_21) (S := S_a11) (I := I_a11) (fuel := 4000) hen ei_21 (e2_fa (cs_a8 hen l) e2_fz) e2_fz (by decide) co_a11 fun M d _ hC hcall p e R s m args below meth c Q D cA A ads r0 ha hl0 => ?_
  have L_0 : e2_gdM M p l e R s m args below meth c Q D cA A ads r0 16 al_a11_0 [] E_a11_0 h_a11_0 := by
    refine e2_indL (u := 2) (j := 3) (lo := 2147483648) (hi := 2147483948) (b := 2) (dd := 0) hl0 (by decide) rfl rfl (Or.inr ⟨rfl, rfl⟩) rfl ci_a11_0 cj_a11_0 ?_
    intro r_0 k_0 hk_0 hp_0 hs_0 hn_0
    have hl_0 : r_0.length ≤ 3 := hs_0.len rfl
    have ha_0 := ha.ext hp_0
    exact e2_fromM hen ha_0 hcall (e2_cutA_ok (e2_fa (fun al st E h hc => hn_0 al st E h hc) e2_fz)) (hC []) (X := e2x_21) ex2_21 16 ck_a11_0
  have EN_0 := e2_entL (u := 2) (j := 3) (lo := 2147483648) (hi := 2147483948) hl0 rfl rfl rfl ci_a11_0 cj_a11_0 L_0
  exact e2_from hen ha hcall (e2_cutA_ok (e2_fa (fun al st E h hc => EN_0 al st E h hc) e2_fz)) (hC []) (X := e2x_21) ex2_21 0 ck_a11_e
/-! a12 X0_valueBy -/
def as_a12 : List ev_V := [(2, 11, 0), (2, 67, 0)]
def E_a12 : e2_E := [(2147483648, 2147583648, 0, 0), (2147483652, 2147483668, 1, 0)]
def an492 : e2_Q6 := (an157, an452)
def an493 : e2_Q2 := (an190, an443)
def an494 : e2_Q3 := (an493, an319)
def an495 : e2_Q4 := (an494, an203)
def an496 : e2_Q5 := (an495, an457)
def an497 : e2_Q6 := (an496, an251)
def an498 : e2_Q7 := (an492, an497)
def an499 : e2_Q8 := (an442, an498)
noncomputable def f_a12 : ev_H := (an499 : e2_Q8)
noncomputable def q_a12_0 : ev_H := (an499 : e2_Q8)
noncomputable def rs_a12 : e2_Rs := [((11, 0, 4294967295), q_a12_0)]
noncomputable def s_a12 : e2_Sm := (21, as_a12, E_a12, f_a12, rs_a12)
noncomputable def S_a12 : List e2_Sm := [s_a8]
noncomputable def I_a12 : List e2_In := []
set_option maxRecDepth 1000000 in
theorem co_a12 : e2_okSB E_a12.length as_a12 f_a12 rs_a12 = true := by decide +kernel
def al_a12_0 : List ev_V := [(2, 11, 0), (2, 67, 0), (11, 2147483648, 2147483679), (1, 2, 4294967296), (9, 0, 0), (9, 0, 0)]
def E_a12_0 : e2_E := [(2147483648, 2147583648, 0, 0), (2147483652, 2147483668, 1, 0), (2147483648, 2147483948, 2, 0)]
noncomputable def h_a12_0 : ev_H := (an499 : e2_Q8)
noncomputable def cl_a12_e : List (Nat × e2_S) := [(16, e2_cutL (al_a12_0.set 3 (11, 2147483648, 2147483948)) 2 (E_a12_0.take 2) h_a12_0)]
set_option maxRecDepth 1000000 in
theorem ck_a12_e : e2_run (e2_cal S_a12 I_a12 4000 0) (e2_fin rs_a12) e2x_21 (e2_bpL cl_a12_e) (e2_cutA cl_a12_e) 4000 (e2_seek e2x_21 0) (e2_al 6 as_a12) [] E_a12 f_a12 = true := by decide +kernel
noncomputable def cl_a12_0 : List (Nat × e2_S) := [(16, e2_cutL (al_a12_0.set 3 (13, 10, 2147483948)) 2 (E_a12_0.take 2) h_a12_0)]
set_option maxRecDepth 1000000 in
theorem ck_a12_0 : e2_runM (e2_cal S_a12 I_a12 4000 0) (e2_fin rs_a12) e2x_21 (e2_bpL cl_a12_0) (e2_cutA cl_a12_0) 4000 (e2_seek e2x_21 16) al_a12_0 [] E_a12_0 h_a12_0 = true := by decide +kernel
set_option maxRecDepth 1000000 in
theorem ci_a12_0 : e2_idl 2 (al_a12_0.set 3 (9, 0, 0)) = true := by decide +kernel
set_option maxRecDepth 1000000 in
theorem cj_a12_0 : e2_idh 2 8 h_a12_0 = true := by decide +kernel
theorem cs_a12 (hen : en_ok) (l : Launch) : e2_smOk l 2 s_a12 := by
  refine e2_conG (H := 1) (n := 0) (C := evd_21) (S := S_a12) (I := I_a12) (fuel := 4000) hen ei_21 (e2_fa (cs_a8 hen l) e2_fz) e2_fz (by decide) co_a12 fun M d _ hC hcall p e R s m args below meth c Q D cA A ads r0 ha hl0 => ?_
  have L_0 : e2_gdM M p l e R s m args below meth c Q D cA A ads r0 16 al_a12_0 [] E_a12_0 h_a12_0 := by
    refine e2_indL (u := 2) (j := 3) (lo := 2147483648) (hi := 2147483948) (b := 2) (dd := 0) hl0 (by decide) rfl rfl (Or.inr ⟨rfl, rfl⟩) rfl ci_a12_0 cj_a12_0 ?_
    intro r_0 k_0 hk_0 hp_0 hs_0 hn_0
    have hl_0 : r_0.length ≤ 3 := hs_0.len rfl
    have ha_0 := ha.ext hp_0
    exact e2_fromM hen ha_0 hcall (e2_cutA_ok (e2_fa (fun al st E h hc => hn_0 al st E h hc) e2_fz)) (hC []) (X := e2x_21) ex2_21 16 ck_a12_0
  have EN_0 := e2_entL (u := 2) (j := 3) (lo := 2147483648) (hi := 2147483948) hl0 rfl rfl rfl ci_a12_0 cj_a12_0 L_0
  exact e2_from hen ha hcall (e2_cutA_ok (e2_fa (fun al st E h hc => EN_0 al st E h hc) e2_fz)) (hC []) (X := e2x_21) ex2_21 0 ck_a12_e
/-! a13 X1_hear -/
def as_a13 : List ev_V := [(2, 77, 0), (11, 0, 4294967295), (11, 0, 4294967295), (11, 0, 4294967295), (11, 2147483648, 2147483649)]
def E_a13 : e2_E := [(2147483648, 2147583648, 0, 0), (2147483652, 2147483668, 1, 0)]
def ac160 : ev_C := (54, [(0, 30, 0), (11, 0, 4294967295)])
def an500 : e2_Q1 := (ac160, ac3)
def an501 : e2_Q2 := (an7, an500)
def an502 : e2_Q3 := (an501, an12)
def an503 : e2_Q4 := (an6, an502)
def an504 : e2_Q5 := (an503, an29)
def an505 : e2_Q6 := (an504, an61)
def an506 : e2_Q2 := (an109, an500)
def an507 : e2_Q3 := (an506, an114)
def an508 : e2_Q4 := (an507, an122)
def an509 : e2_Q5 := (an108, an508)
def an510 : e2_Q6 := (an428, an509)
def an511 : e2_Q7 := (an505, an510)
def an512 : e2_Q2 := (an134, an500)
def an513 : e2_Q3 := (an512, an139)
def an514 : e2_Q4 := (an133, an513)
def an515 : e2_Q5 := (an514, an156)
def ac161 : ev_C := (1, [(2, 82, 0), (11, 2147483648, 2147483652), (11, 2147483648, 2147483678), (1, 0, 4294967296), (2, 78, 0), (2, 79, 0), (2, 80, 0), (2, 81, 0)])
def an516 : e2_Q1 := (ac161, ac3)
def an517 : e2_Q2 := (an173, an516)
def an518 : e2_Q3 := (an517, an178)
def an519 : e2_Q4 := (an518, an186)
def an520 : e2_Q5 := (an172, an519)
def an521 : e2_Q6 := (an515, an520)
def ac162 : ev_C := (56, [(0, 30, 0), (11, 2147483648, 2147483649)])
def an522 : e2_Q1 := (ac162, ac3)
def an523 : e2_Q2 := (an236, an522)
def an524 : e2_Q3 := (an523, an241)
def an525 : e2_Q4 := (an524, an249)
def an526 : e2_Q5 := (an235, an525)
def an527 : e2_Q6 := (an432, an526)
def an528 : e2_Q7 := (an521, an527)
def an529 : e2_Q8 := (an511, an528)
noncomputable def f_a13 : ev_H := (an529 : e2_Q8)
noncomputable def q_a13_0 : ev_H := (an529 : e2_Q8)
noncomputable def rs_a13 : e2_Rs := [((11, 2147483647, 2147483677), q_a13_0)]
noncomputable def s_a13 : e2_Sm := (26, as_a13, E_a13, f_a13, rs_a13)
noncomputable def S_a13 : List e2_Sm := []
noncomputable def I_a13 : List e2_In := [(24, 2, e2x_24), (25, 3, e2x_25)]
set_option maxRecDepth 1000000 in
theorem ck_a13 : e2_run (e2_cal S_a13 I_a13 4000 1) (e2_fin rs_a13) e2x_26 (fun _ => false) (fun _ _ _ _ _ => false) 4000 (e2_seek e2x_26 0) (e2_al 5 as_a13) [] E_a13 f_a13 = true := by decide +kernel
set_option maxRecDepth 1000000 in
theorem co_a13 : e2_okSB E_a13.length as_a13 f_a13 rs_a13 = true := by decide +kernel
theorem cs_a13 (hen : en_ok) (l : Launch) : e2_smOk l 2 s_a13 := e2_con0 (H := 0) (n := 1) (C := evd_26) (S := S_a13) (I := I_a13) (fuel := 4000) [] hen ei_26 e2_fz (e2_fa ein_24 (e2_fa ein_25 e2_fz)) (by decide) co_a13 ex2_26 ck_a13
/-! a14 X1_choicesFrom -/
def as_a14 : List ev_V := [(2, 77, 0), (0, 16, 0), (11, 0, 4294967295)]
def E_a14 : e2_E := [(2147483648, 2147583648, 0, 0), (2147483652, 2147483668, 1, 0)]
noncomputable def f_a14 : ev_H := (an435 : e2_Q8)
noncomputable def q_a14_0 : ev_H := (an435 : e2_Q8)
noncomputable def rs_a14 : e2_Rs := [((0, 1, 0), q_a14_0)]
noncomputable def s_a14 : e2_Sm := (32, as_a14, E_a14, f_a14, rs_a14)
noncomputable def S_a14 : List e2_Sm := []
noncomputable def I_a14 : List e2_In := []
set_option maxRecDepth 1000000 in
theorem ck_a14 : e2_run (e2_cal S_a14 I_a14 4000 0) (e2_fin rs_a14) e2x_32 (fun _ => false) (fun _ _ _ _ _ => false) 4000 (e2_seek e2x_32 0) (e2_al 6 as_a14) [] E_a14 f_a14 = true := by decide +kernel
set_option maxRecDepth 1000000 in
theorem co_a14 : e2_okSB E_a14.length as_a14 f_a14 rs_a14 = true := by decide +kernel
theorem cs_a14 (hen : en_ok) (l : Launch) : e2_smOk l 1 s_a14 := e2_con0 (H := 0) (n := 0) (C := evd_32) (S := S_a14) (I := I_a14) (fuel := 4000) [] hen ei_32 e2_fz e2_fz (by decide) co_a14 ex2_32 ck_a14
/-! a15 X1_choicesFrom -/
def as_a15 : List ev_V := [(2, 77, 0), (0, 15, 0), (11, 0, 4294967295)]
def E_a15 : e2_E := [(2147483648, 2147583648, 0, 0), (2147483652, 2147483668, 1, 0)]
def ac163 : ev_C := (54, [(0, 16, 0), (11, 0, 4294967295)])
def an530 : e2_Q1 := (ac163, ac3)
def an531 : e2_Q2 := (an70, an530)
def an532 : e2_Q3 := (an531, an75)
def an533 : e2_Q4 := (an275, an532)
def an534 : e2_Q5 := (an533, an92)
def an535 : e2_Q6 := (an534, an124)
def an536 : e2_Q7 := (an62, an535)
def an537 : e2_Q6 := (an157, an520)
def an538 : e2_Q7 := (an537, an433)
def an539 : e2_Q8 := (an536, an538)
noncomputable def f_a15 : ev_H := (an539 : e2_Q8)
noncomputable def q_a15_0 : ev_H := (an539 : e2_Q8)
noncomputable def rs_a15 : e2_Rs := [((11, 2147483649, 2147483650), q_a15_0)]
noncomputable def s_a15 : e2_Sm := (32, as_a15, E_a15, f_a15, rs_a15)
noncomputable def S_a15 : List e2_Sm := [s_a14]
noncomputable def I_a15 : List e2_In := []
set_option maxRecDepth 1000000 in
theorem ck_a15 : e2_run (e2_cal S_a15 I_a15 4000 0) (e2_fin rs_a15) e2x_32 (fun _ => false) (fun _ _ _ _ _ => false) 4000 (e2_seek e2x_32 0) (e2_al 6 as_a15) [] E_a15 f_a15 = true := by decide +kernel
set_option maxRecDepth 1000000 in
theorem co_a15 : e2_okSB E_a15.length as_a15 f_a15 rs_a15 = true := by decide +kernel
theorem cs_a15 (hen : en_ok) (l : Launch) : e2_smOk l 2 s_a15 := e2_con0 (H := 1) (n := 0) (C := evd_32) (S := S_a15) (I := I_a15) (fuel := 4000) [] hen ei_32 (e2_fa (cs_a14 hen l) e2_fz) e2_fz (by decide) co_a15 ex2_32 ck_a15
/-! a16 X1_choicesFrom -/
def as_a16 : List ev_V := [(2, 77, 0), (0, 14, 0), (11, 0, 4294967295)]
def E_a16 : e2_E := [(2147483648, 2147583648, 0, 0), (2147483652, 2147483668, 1, 0)]
noncomputable def f_a16 : ev_H := (an539 : e2_Q8)
noncomputable def q_a16_0 : ev_H := (an539 : e2_Q8)
noncomputable def rs_a16 : e2_Rs := [((11, 2147483649, 2147483652), q_a16_0)]
noncomputable def s_a16 : e2_Sm := (32, as_a16, E_a16, f_a16, rs_a16)
noncomputable def S_a16 : List e2_Sm := [s_a15]
noncomputable def I_a16 : List e2_In := []
set_option maxRecDepth 1000000 in
theorem ck_a16 : e2_run (e2_cal S_a16 I_a16 4000 0) (e2_fin rs_a16) e2x_32 (fun _ => false) (fun _ _ _ _ _ => false) 4000 (e2_seek e2x_32 0) (e2_al 6 as_a16) [] E_a16 f_a16 = true := by decide +kernel
set_option maxRecDepth 1000000 in
theorem co_a16 : e2_okSB E_a16.length as_a16 f_a16 rs_a16 = true := by decide +kernel
theorem cs_a16 (hen : en_ok) (l : Launch) : e2_smOk l 3 s_a16 := e2_con0 (H := 2) (n := 0) (C := evd_32) (S := S_a16) (I := I_a16) (fuel := 4000) [] hen ei_32 (e2_fa (cs_a15 hen l) e2_fz) e2_fz (by decide) co_a16 ex2_32 ck_a16
/-! a17 X1_choicesFrom -/
def as_a17 : List ev_V := [(2, 77, 0), (0, 13, 0), (11, 0, 4294967295)]
def E_a17 : e2_E := [(2147483648, 2147583648, 0, 0), (2147483652, 2147483668, 1, 0)]
noncomputable def f_a17 : ev_H := (an539 : e2_Q8)
noncomputable def q_a17_0 : ev_H := (an539 : e2_Q8)
noncomputable def rs_a17 : e2_Rs := [((11, 2147483649, 2147483656), q_a17_0)]
noncomputable def s_a17 : e2_Sm := (32, as_a17, E_a17, f_a17, rs_a17)
noncomputable def S_a17 : List e2_Sm := [s_a16]
noncomputable def I_a17 : List e2_In := []
set_option maxRecDepth 1000000 in
theorem ck_a17 : e2_run (e2_cal S_a17 I_a17 4000 0) (e2_fin rs_a17) e2x_32 (fun _ => false) (fun _ _ _ _ _ => false) 4000 (e2_seek e2x_32 0) (e2_al 6 as_a17) [] E_a17 f_a17 = true := by decide +kernel
set_option maxRecDepth 1000000 in
theorem co_a17 : e2_okSB E_a17.length as_a17 f_a17 rs_a17 = true := by decide +kernel
theorem cs_a17 (hen : en_ok) (l : Launch) : e2_smOk l 4 s_a17 := e2_con0 (H := 3) (n := 0) (C := evd_32) (S := S_a17) (I := I_a17) (fuel := 4000) [] hen ei_32 (e2_fa (cs_a16 hen l) e2_fz) e2_fz (by decide) co_a17 ex2_32 ck_a17
/-! a18 X1_choicesFrom -/
def as_a18 : List ev_V := [(2, 77, 0), (0, 12, 0), (11, 0, 4294967295)]
def E_a18 : e2_E := [(2147483648, 2147583648, 0, 0), (2147483652, 2147483668, 1, 0)]
noncomputable def f_a18 : ev_H := (an539 : e2_Q8)
noncomputable def q_a18_0 : ev_H := (an539 : e2_Q8)
noncomputable def rs_a18 : e2_Rs := [((11, 2147483649, 2147483664), q_a18_0)]
noncomputable def s_a18 : e2_Sm := (32, as_a18, E_a18, f_a18, rs_a18)
noncomputable def S_a18 : List e2_Sm := [s_a17]
noncomputable def I_a18 : List e2_In := []
set_option maxRecDepth 1000000 in
theorem ck_a18 : e2_run (e2_cal S_a18 I_a18 4000 0) (e2_fin rs_a18) e2x_32 (fun _ => false) (fun _ _ _ _ _ => false) 4000 (e2_seek e2x_32 0) (e2_al 6 as_a18) [] E_a18 f_a18 = true := by decide +kernel
set_option maxRecDepth 1000000 in
theorem co_a18 : e2_okSB E_a18.length as_a18 f_a18 rs_a18 = true := by decide +kernel
theorem cs_a18 (hen : en_ok) (l : Launch) : e2_smOk l 5 s_a18 := e2_con0 (H := 4) (n := 0) (C := evd_32) (S := S_a18) (I := I_a18) (fuel := 4000) [] hen ei_32 (e2_fa (cs_a17 hen l) e2_fz) e2_fz (by decide) co_a18 ex2_32 ck_a18
/-! a19 X1_choicesFrom -/
def as_a19 : List ev_V := [(2, 77, 0), (0, 11, 0), (11, 0, 4294967295)]
def E_a19 : e2_E := [(2147483648, 2147583648, 0, 0), (2147483652, 2147483668, 1, 0)]
noncomputable def f_a19 : ev_H := (an539 : e2_Q8)
noncomputable def q_a19_0 : ev_H := (an539 : e2_Q8)
noncomputable def rs_a19 : e2_Rs := [((11, 2147483649, 2147483680), q_a19_0)]
noncomputable def s_a19 : e2_Sm := (32, as_a19, E_a19, f_a19, rs_a19)
noncomputable def S_a19 : List e2_Sm := [s_a18]
noncomputable def I_a19 : List e2_In := []
set_option maxRecDepth 1000000 in
theorem ck_a19 : e2_run (e2_cal S_a19 I_a19 4000 0) (e2_fin rs_a19) e2x_32 (fun _ => false) (fun _ _ _ _ _ => false) 4000 (e2_seek e2x_32 0) (e2_al 6 as_a19) [] E_a19 f_a19 = true := by decide +kernel
set_option maxRecDepth 1000000 in
theorem co_a19 : e2_okSB E_a19.length as_a19 f_a19 rs_a19 = true := by decide +kernel
theorem cs_a19 (hen : en_ok) (l : Launch) : e2_smOk l 6 s_a19 := e2_con0 (H := 5) (n := 0) (C := evd_32) (S := S_a19) (I := I_a19) (fuel := 4000) [] hen ei_32 (e2_fa (cs_a18 hen l) e2_fz) e2_fz (by decide) co_a19 ex2_32 ck_a19
/-! a20 X1_choicesFrom -/
def as_a20 : List ev_V := [(2, 77, 0), (0, 10, 0), (11, 0, 4294967295)]
def E_a20 : e2_E := [(2147483648, 2147583648, 0, 0), (2147483652, 2147483668, 1, 0)]
noncomputable def f_a20 : ev_H := (an539 : e2_Q8)
noncomputable def q_a20_0 : ev_H := (an539 : e2_Q8)
noncomputable def rs_a20 : e2_Rs := [((11, 2147483649, 2147483712), q_a20_0)]
noncomputable def s_a20 : e2_Sm := (32, as_a20, E_a20, f_a20, rs_a20)
noncomputable def S_a20 : List e2_Sm := [s_a19]
noncomputable def I_a20 : List e2_In := []
set_option maxRecDepth 1000000 in
theorem ck_a20 : e2_run (e2_cal S_a20 I_a20 4000 0) (e2_fin rs_a20) e2x_32 (fun _ => false) (fun _ _ _ _ _ => false) 4000 (e2_seek e2x_32 0) (e2_al 6 as_a20) [] E_a20 f_a20 = true := by decide +kernel
set_option maxRecDepth 1000000 in
theorem co_a20 : e2_okSB E_a20.length as_a20 f_a20 rs_a20 = true := by decide +kernel
theorem cs_a20 (hen : en_ok) (l : Launch) : e2_smOk l 7 s_a20 := e2_con0 (H := 6) (n := 0) (C := evd_32) (S := S_a20) (I := I_a20) (fuel := 4000) [] hen ei_32 (e2_fa (cs_a19 hen l) e2_fz) e2_fz (by decide) co_a20 ex2_32 ck_a20
/-! a21 X1_choicesFrom -/
def as_a21 : List ev_V := [(2, 77, 0), (0, 9, 0), (11, 0, 4294967295)]
def E_a21 : e2_E := [(2147483648, 2147583648, 0, 0), (2147483652, 2147483668, 1, 0)]
noncomputable def f_a21 : ev_H := (an539 : e2_Q8)
noncomputable def q_a21_0 : ev_H := (an539 : e2_Q8)
noncomputable def rs_a21 : e2_Rs := [((11, 2147483649, 2147483776), q_a21_0)]
noncomputable def s_a21 : e2_Sm := (32, as_a21, E_a21, f_a21, rs_a21)
noncomputable def S_a21 : List e2_Sm := [s_a20]
noncomputable def I_a21 : List e2_In := []
set_option maxRecDepth 1000000 in
theorem ck_a21 : e2_run (e2_cal S_a21 I_a21 4000 0) (e2_fin rs_a21) e2x_32 (fun _ => false) (fun _ _ _ _ _ => false) 4000 (e2_seek e2x_32 0) (e2_al 6 as_a21) [] E_a21 f_a21 = true := by decide +kernel
set_option maxRecDepth 1000000 in
theorem co_a21 : e2_okSB E_a21.length as_a21 f_a21 rs_a21 = true := by decide +kernel
theorem cs_a21 (hen : en_ok) (l : Launch) : e2_smOk l 8 s_a21 := e2_con0 (H := 7) (n := 0) (C := evd_32) (S := S_a21) (I := I_a21) (fuel := 4000) [] hen ei_32 (e2_fa (cs_a20 hen l) e2_fz) e2_fz (by decide) co_a21 ex2_32 ck_a21
/-! a22 X1_choicesFrom -/
def as_a22 : List ev_V := [(2, 77, 0), (0, 8, 0), (11, 0, 4294967295)]
def E_a22 : e2_E := [(2147483648, 2147583648, 0, 0), (2147483652, 2147483668, 1, 0)]
noncomputable def f_a22 : ev_H := (an539 : e2_Q8)
noncomputable def q_a22_0 : ev_H := (an539 : e2_Q8)
noncomputable def rs_a22 : e2_Rs := [((11, 2147483649, 2147483904), q_a22_0)]
noncomputable def s_a22 : e2_Sm := (32, as_a22, E_a22, f_a22, rs_a22)
noncomputable def S_a22 : List e2_Sm := [s_a21]
noncomputable def I_a22 : List e2_In := []
set_option maxRecDepth 1000000 in
theorem ck_a22 : e2_run (e2_cal S_a22 I_a22 4000 0) (e2_fin rs_a22) e2x_32 (fun _ => false) (fun _ _ _ _ _ => false) 4000 (e2_seek e2x_32 0) (e2_al 6 as_a22) [] E_a22 f_a22 = true := by decide +kernel
set_option maxRecDepth 1000000 in
theorem co_a22 : e2_okSB E_a22.length as_a22 f_a22 rs_a22 = true := by decide +kernel
theorem cs_a22 (hen : en_ok) (l : Launch) : e2_smOk l 9 s_a22 := e2_con0 (H := 8) (n := 0) (C := evd_32) (S := S_a22) (I := I_a22) (fuel := 4000) [] hen ei_32 (e2_fa (cs_a21 hen l) e2_fz) e2_fz (by decide) co_a22 ex2_32 ck_a22
/-! a23 X1_choicesFrom -/
def as_a23 : List ev_V := [(2, 77, 0), (0, 7, 0), (11, 0, 4294967295)]
def E_a23 : e2_E := [(2147483648, 2147583648, 0, 0), (2147483652, 2147483668, 1, 0)]
noncomputable def f_a23 : ev_H := (an539 : e2_Q8)
noncomputable def q_a23_0 : ev_H := (an539 : e2_Q8)
noncomputable def rs_a23 : e2_Rs := [((11, 2147483649, 2147484160), q_a23_0)]
noncomputable def s_a23 : e2_Sm := (32, as_a23, E_a23, f_a23, rs_a23)
noncomputable def S_a23 : List e2_Sm := [s_a22]
noncomputable def I_a23 : List e2_In := []
set_option maxRecDepth 1000000 in
theorem ck_a23 : e2_run (e2_cal S_a23 I_a23 4000 0) (e2_fin rs_a23) e2x_32 (fun _ => false) (fun _ _ _ _ _ => false) 4000 (e2_seek e2x_32 0) (e2_al 6 as_a23) [] E_a23 f_a23 = true := by decide +kernel
set_option maxRecDepth 1000000 in
theorem co_a23 : e2_okSB E_a23.length as_a23 f_a23 rs_a23 = true := by decide +kernel
theorem cs_a23 (hen : en_ok) (l : Launch) : e2_smOk l 10 s_a23 := e2_con0 (H := 9) (n := 0) (C := evd_32) (S := S_a23) (I := I_a23) (fuel := 4000) [] hen ei_32 (e2_fa (cs_a22 hen l) e2_fz) e2_fz (by decide) co_a23 ex2_32 ck_a23
/-! a24 X1_choicesFrom -/
def as_a24 : List ev_V := [(2, 77, 0), (0, 6, 0), (11, 0, 4294967295)]
def E_a24 : e2_E := [(2147483648, 2147583648, 0, 0), (2147483652, 2147483668, 1, 0)]
noncomputable def f_a24 : ev_H := (an539 : e2_Q8)
noncomputable def q_a24_0 : ev_H := (an539 : e2_Q8)
noncomputable def rs_a24 : e2_Rs := [((11, 2147483649, 2147484672), q_a24_0)]
noncomputable def s_a24 : e2_Sm := (32, as_a24, E_a24, f_a24, rs_a24)
noncomputable def S_a24 : List e2_Sm := [s_a23]
noncomputable def I_a24 : List e2_In := []
set_option maxRecDepth 1000000 in
theorem ck_a24 : e2_run (e2_cal S_a24 I_a24 4000 0) (e2_fin rs_a24) e2x_32 (fun _ => false) (fun _ _ _ _ _ => false) 4000 (e2_seek e2x_32 0) (e2_al 6 as_a24) [] E_a24 f_a24 = true := by decide +kernel
set_option maxRecDepth 1000000 in
theorem co_a24 : e2_okSB E_a24.length as_a24 f_a24 rs_a24 = true := by decide +kernel
theorem cs_a24 (hen : en_ok) (l : Launch) : e2_smOk l 11 s_a24 := e2_con0 (H := 10) (n := 0) (C := evd_32) (S := S_a24) (I := I_a24) (fuel := 4000) [] hen ei_32 (e2_fa (cs_a23 hen l) e2_fz) e2_fz (by decide) co_a24 ex2_32 ck_a24
/-! a25 X1_choicesFrom -/
def as_a25 : List ev_V := [(2, 77, 0), (0, 5, 0), (11, 0, 4294967295)]
def E_a25 : e2_E := [(2147483648, 2147583648, 0, 0), (2147483652, 2147483668, 1, 0)]
noncomputable def f_a25 : ev_H := (an539 : e2_Q8)
noncomputable def q_a25_0 : ev_H := (an539 : e2_Q8)
noncomputable def rs_a25 : e2_Rs := [((11, 2147483649, 2147485696), q_a25_0)]
noncomputable def s_a25 : e2_Sm := (32, as_a25, E_a25, f_a25, rs_a25)
noncomputable def S_a25 : List e2_Sm := [s_a24]
noncomputable def I_a25 : List e2_In := []
set_option maxRecDepth 1000000 in
theorem ck_a25 : e2_run (e2_cal S_a25 I_a25 4000 0) (e2_fin rs_a25) e2x_32 (fun _ => false) (fun _ _ _ _ _ => false) 4000 (e2_seek e2x_32 0) (e2_al 6 as_a25) [] E_a25 f_a25 = true := by decide +kernel
set_option maxRecDepth 1000000 in
theorem co_a25 : e2_okSB E_a25.length as_a25 f_a25 rs_a25 = true := by decide +kernel
theorem cs_a25 (hen : en_ok) (l : Launch) : e2_smOk l 12 s_a25 := e2_con0 (H := 11) (n := 0) (C := evd_32) (S := S_a25) (I := I_a25) (fuel := 4000) [] hen ei_32 (e2_fa (cs_a24 hen l) e2_fz) e2_fz (by decide) co_a25 ex2_32 ck_a25
/-! a26 X1_choicesFrom -/
def as_a26 : List ev_V := [(2, 77, 0), (0, 4, 0), (11, 0, 4294967295)]
def E_a26 : e2_E := [(2147483648, 2147583648, 0, 0), (2147483652, 2147483668, 1, 0)]
noncomputable def f_a26 : ev_H := (an539 : e2_Q8)
noncomputable def q_a26_0 : ev_H := (an539 : e2_Q8)
noncomputable def rs_a26 : e2_Rs := [((11, 2147483649, 2147487744), q_a26_0)]
noncomputable def s_a26 : e2_Sm := (32, as_a26, E_a26, f_a26, rs_a26)
noncomputable def S_a26 : List e2_Sm := [s_a25]
noncomputable def I_a26 : List e2_In := []
set_option maxRecDepth 1000000 in
theorem ck_a26 : e2_run (e2_cal S_a26 I_a26 4000 0) (e2_fin rs_a26) e2x_32 (fun _ => false) (fun _ _ _ _ _ => false) 4000 (e2_seek e2x_32 0) (e2_al 6 as_a26) [] E_a26 f_a26 = true := by decide +kernel
set_option maxRecDepth 1000000 in
theorem co_a26 : e2_okSB E_a26.length as_a26 f_a26 rs_a26 = true := by decide +kernel
theorem cs_a26 (hen : en_ok) (l : Launch) : e2_smOk l 13 s_a26 := e2_con0 (H := 12) (n := 0) (C := evd_32) (S := S_a26) (I := I_a26) (fuel := 4000) [] hen ei_32 (e2_fa (cs_a25 hen l) e2_fz) e2_fz (by decide) co_a26 ex2_32 ck_a26
/-! a27 X1_choicesFrom -/
def as_a27 : List ev_V := [(2, 77, 0), (0, 3, 0), (11, 0, 4294967295)]
def E_a27 : e2_E := [(2147483648, 2147583648, 0, 0), (2147483652, 2147483668, 1, 0)]
noncomputable def f_a27 : ev_H := (an539 : e2_Q8)
noncomputable def q_a27_0 : ev_H := (an539 : e2_Q8)
noncomputable def rs_a27 : e2_Rs := [((11, 2147483649, 2147491840), q_a27_0)]
noncomputable def s_a27 : e2_Sm := (32, as_a27, E_a27, f_a27, rs_a27)
noncomputable def S_a27 : List e2_Sm := [s_a26]
noncomputable def I_a27 : List e2_In := []
set_option maxRecDepth 1000000 in
theorem ck_a27 : e2_run (e2_cal S_a27 I_a27 4000 0) (e2_fin rs_a27) e2x_32 (fun _ => false) (fun _ _ _ _ _ => false) 4000 (e2_seek e2x_32 0) (e2_al 6 as_a27) [] E_a27 f_a27 = true := by decide +kernel
set_option maxRecDepth 1000000 in
theorem co_a27 : e2_okSB E_a27.length as_a27 f_a27 rs_a27 = true := by decide +kernel
theorem cs_a27 (hen : en_ok) (l : Launch) : e2_smOk l 14 s_a27 := e2_con0 (H := 13) (n := 0) (C := evd_32) (S := S_a27) (I := I_a27) (fuel := 4000) [] hen ei_32 (e2_fa (cs_a26 hen l) e2_fz) e2_fz (by decide) co_a27 ex2_32 ck_a27
/-! a28 X1_choicesFrom -/
def as_a28 : List ev_V := [(2, 77, 0), (0, 2, 0), (11, 0, 4294967295)]
def E_a28 : e2_E := [(2147483648, 2147583648, 0, 0), (2147483652, 2147483668, 1, 0)]
noncomputable def f_a28 : ev_H := (an539 : e2_Q8)
noncomputable def q_a28_0 : ev_H := (an539 : e2_Q8)
noncomputable def rs_a28 : e2_Rs := [((11, 2147483649, 2147500032), q_a28_0)]
noncomputable def s_a28 : e2_Sm := (32, as_a28, E_a28, f_a28, rs_a28)
noncomputable def S_a28 : List e2_Sm := [s_a27]
noncomputable def I_a28 : List e2_In := []
set_option maxRecDepth 1000000 in
theorem ck_a28 : e2_run (e2_cal S_a28 I_a28 4000 0) (e2_fin rs_a28) e2x_32 (fun _ => false) (fun _ _ _ _ _ => false) 4000 (e2_seek e2x_32 0) (e2_al 6 as_a28) [] E_a28 f_a28 = true := by decide +kernel
set_option maxRecDepth 1000000 in
theorem co_a28 : e2_okSB E_a28.length as_a28 f_a28 rs_a28 = true := by decide +kernel
theorem cs_a28 (hen : en_ok) (l : Launch) : e2_smOk l 15 s_a28 := e2_con0 (H := 14) (n := 0) (C := evd_32) (S := S_a28) (I := I_a28) (fuel := 4000) [] hen ei_32 (e2_fa (cs_a27 hen l) e2_fz) e2_fz (by decide) co_a28 ex2_32 ck_a28
/-! a29 X1_choicesFrom -/
def as_a29 : List ev_V := [(2, 77, 0), (0, 1, 0), (11, 0, 4294967295)]
def E_a29 : e2_E := [(2147483648, 2147583648, 0, 0), (2147483652, 2147483668, 1, 0)]
noncomputable def f_a29 : ev_H := (an539 : e2_Q8)
noncomputable def q_a29_0 : ev_H := (an539 : e2_Q8)
noncomputable def rs_a29 : e2_Rs := [((11, 2147483649, 2147516416), q_a29_0)]
noncomputable def s_a29 : e2_Sm := (32, as_a29, E_a29, f_a29, rs_a29)
noncomputable def S_a29 : List e2_Sm := [s_a28]
noncomputable def I_a29 : List e2_In := []
set_option maxRecDepth 1000000 in
theorem ck_a29 : e2_run (e2_cal S_a29 I_a29 4000 0) (e2_fin rs_a29) e2x_32 (fun _ => false) (fun _ _ _ _ _ => false) 4000 (e2_seek e2x_32 0) (e2_al 6 as_a29) [] E_a29 f_a29 = true := by decide +kernel
set_option maxRecDepth 1000000 in
theorem co_a29 : e2_okSB E_a29.length as_a29 f_a29 rs_a29 = true := by decide +kernel
theorem cs_a29 (hen : en_ok) (l : Launch) : e2_smOk l 16 s_a29 := e2_con0 (H := 15) (n := 0) (C := evd_32) (S := S_a29) (I := I_a29) (fuel := 4000) [] hen ei_32 (e2_fa (cs_a28 hen l) e2_fz) e2_fz (by decide) co_a29 ex2_32 ck_a29
/-! a30 X1_choicesFrom -/
def as_a30 : List ev_V := [(2, 77, 0), (0, 0, 0), (11, 0, 4294967295)]
def E_a30 : e2_E := [(2147483648, 2147583648, 0, 0), (2147483652, 2147483668, 1, 0)]
noncomputable def f_a30 : ev_H := (an539 : e2_Q8)
noncomputable def q_a30_0 : ev_H := (an539 : e2_Q8)
noncomputable def rs_a30 : e2_Rs := [((11, 2147483649, 2147549184), q_a30_0)]
noncomputable def s_a30 : e2_Sm := (32, as_a30, E_a30, f_a30, rs_a30)
noncomputable def S_a30 : List e2_Sm := [s_a29]
noncomputable def I_a30 : List e2_In := []
set_option maxRecDepth 1000000 in
theorem ck_a30 : e2_run (e2_cal S_a30 I_a30 4000 0) (e2_fin rs_a30) e2x_32 (fun _ => false) (fun _ _ _ _ _ => false) 4000 (e2_seek e2x_32 0) (e2_al 6 as_a30) [] E_a30 f_a30 = true := by decide +kernel
set_option maxRecDepth 1000000 in
theorem co_a30 : e2_okSB E_a30.length as_a30 f_a30 rs_a30 = true := by decide +kernel
theorem cs_a30 (hen : en_ok) (l : Launch) : e2_smOk l 17 s_a30 := e2_con0 (H := 16) (n := 0) (C := evd_32) (S := S_a30) (I := I_a30) (fuel := 4000) [] hen ei_32 (e2_fa (cs_a29 hen l) e2_fz) e2_fz (by decide) co_a30 ex2_32 ck_a30
/-! a31 X1_setAgainst -/
def as_a31 : List ev_V := [(2, 77, 0), (11, 0, 4294967295)]
def E_a31 : e2_E := [(2147483648, 2147583648, 0, 0), (2147483652, 2147483668, 1, 0)]
noncomputable def f_a31 : ev_H := (an539 : e2_Q8)
noncomputable def q_a31_0 : ev_H := (an539 : e2_Q8)
noncomputable def rs_a31 : e2_Rs := [((9, 0, 0), q_a31_0)]
noncomputable def s_a31 : e2_Sm := (31, as_a31, E_a31, f_a31, rs_a31)
noncomputable def S_a31 : List e2_Sm := []
noncomputable def I_a31 : List e2_In := [(159, 2, e2x_159)]
set_option maxRecDepth 1000000 in
theorem co_a31 : e2_okSB E_a31.length as_a31 f_a31 rs_a31 = true := by decide +kernel
def al_a31_0 : List ev_V := [(2, 77, 0), (11, 0, 4294967295), (1, 2, 4294967296)]
def E_a31_0 : e2_E := [(2147483648, 2147583648, 0, 0), (2147483652, 2147483668, 1, 0), (2147483648, 2147483664, 2, 0)]
noncomputable def h_a31_0 : ev_H := (an539 : e2_Q8)
noncomputable def cl_a31_e : List (Nat × e2_S) := [(2, e2_cutL (al_a31_0.set 2 (11, 2147483648, 2147483664)) 2 (E_a31_0.take 2) h_a31_0)]
set_option maxRecDepth 1000000 in
theorem ck_a31_e : e2_run (e2_cal S_a31 I_a31 4000 1) (e2_fin rs_a31) e2x_31 (e2_bpL cl_a31_e) (e2_cutA cl_a31_e) 4000 (e2_seek e2x_31 0) (e2_al 3 as_a31) [] E_a31 f_a31 = true := by decide +kernel
noncomputable def cl_a31_0 : List (Nat × e2_S) := [(2, e2_cutL (al_a31_0.set 2 (13, 10, 2147483664)) 2 (E_a31_0.take 2) h_a31_0)]
set_option maxRecDepth 1000000 in
theorem ck_a31_0 : e2_runM (e2_cal S_a31 I_a31 4000 1) (e2_fin rs_a31) e2x_31 (e2_bpL cl_a31_0) (e2_cutA cl_a31_0) 4000 (e2_seek e2x_31 2) al_a31_0 [] E_a31_0 h_a31_0 = true := by decide +kernel
set_option maxRecDepth 1000000 in
theorem ci_a31_0 : e2_idl 2 (al_a31_0.set 2 (9, 0, 0)) = true := by decide +kernel
set_option maxRecDepth 1000000 in
theorem cj_a31_0 : e2_idh 2 8 h_a31_0 = true := by decide +kernel
theorem cs_a31 (hen : en_ok) (l : Launch) : e2_smOk l 2 s_a31 := by
  refine e2_conG (H := 0) (n := 1) (C := evd_31) (S := S_a31) (I := I_a31) (fuel := 4000) hen ei_31 e2_fz (e2_fa ein_159 e2_fz) (by decide) co_a31 fun M d _ hC hcall p e R s m args below meth c Q D cA A ads r0 ha hl0 => ?_
  have L_0 : e2_gdM M p l e R s m args below meth c Q D cA A ads r0 2 al_a31_0 [] E_a31_0 h_a31_0 := by
    refine e2_indL (u := 2) (j := 2) (lo := 2147483648) (hi := 2147483664) (b := 2) (dd := 0) hl0 (by decide) rfl rfl (Or.inr ⟨rfl, rfl⟩) rfl ci_a31_0 cj_a31_0 ?_
    intro r_0 k_0 hk_0 hp_0 hs_0 hn_0
    have hl_0 : r_0.length ≤ 3 := hs_0.len rfl
    have ha_0 := ha.ext hp_0
    exact e2_fromM hen ha_0 hcall (e2_cutA_ok (e2_fa (fun al st E h hc => hn_0 al st E h hc) e2_fz)) (hC []) (X := e2x_31) ex2_31 2 ck_a31_0
  have EN_0 := e2_entL (u := 2) (j := 2) (lo := 2147483648) (hi := 2147483664) hl0 rfl rfl rfl ci_a31_0 cj_a31_0 L_0
  exact e2_from hen ha hcall (e2_cutA_ok (e2_fa (fun al st E h hc => EN_0 al st E h hc) e2_fz)) (hC []) (X := e2x_31) ex2_31 0 ck_a31_e
/-! a32 X1_grammars -/
def as_a32 : List ev_V := [(2, 77, 0), (11, 0, 4294967295), (11, 0, 4294967295)]
def E_a32 : e2_E := [(2147483648, 2147583648, 0, 0), (2147483652, 2147483668, 1, 0)]
def an540 : e2_Q6 := (an534, an509)
def an541 : e2_Q7 := (an505, an540)
def an542 : e2_Q8 := (an541, an528)
noncomputable def f_a32 : ev_H := (an542 : e2_Q8)
noncomputable def q_a32_0 : ev_H := (an542 : e2_Q8)
noncomputable def rs_a32 : e2_Rs := [((11, 2147483648, 2147549184), q_a32_0)]
noncomputable def s_a32 : e2_Sm := (30, as_a32, E_a32, f_a32, rs_a32)
noncomputable def S_a32 : List e2_Sm := [s_a30, s_a31]
noncomputable def I_a32 : List e2_In := [(29, 3, e2x_29), (291, 1, e2x_291)]
set_option maxRecDepth 1000000 in
theorem co_a32 : e2_okSB E_a32.length as_a32 f_a32 rs_a32 = true := by decide +kernel
def al_a32_0 : List ev_V := [(2, 77, 0), (11, 0, 4294967295), (11, 0, 4294967295), (11, 0, 4294967295), (1, 2, 4294967296), (9, 0, 0), (9, 0, 0)]
def E_a32_0 : e2_E := [(2147483648, 2147583648, 0, 0), (2147483652, 2147483668, 1, 0), (2147483648, 2147483678, 2, 0)]
noncomputable def h_a32_0 : ev_H := (an542 : e2_Q8)
def al_a32_1 : List ev_V := [(2, 77, 0), (11, 0, 4294967295), (11, 0, 4294967295), (11, 0, 4294967295), (1, 2, 4294967296), (9, 0, 0), (9, 0, 0)]
def E_a32_1 : e2_E := [(2147483648, 2147583648, 0, 0), (2147483652, 2147483668, 1, 0), (2147483648, 2147483664, 2, 0)]
noncomputable def h_a32_1 : ev_H := (an542 : e2_Q8)
def al_a32_2 : List ev_V := [(2, 77, 0), (11, 0, 4294967295), (11, 0, 4294967295), (11, 0, 4294967295), (11, 0, 4294967295), (1, 2, 4294967296), (9, 0, 0)]
def E_a32_2 : e2_E := [(2147483648, 2147583648, 0, 0), (2147483652, 2147483668, 1, 0), (2147483648, 2147483678, 2, 0)]
noncomputable def h_a32_2 : ev_H := (an542 : e2_Q8)
noncomputable def cl_a32_e : List (Nat × e2_S) := [(5, e2_cutL (al_a32_0.set 4 (11, 2147483648, 2147483678)) 2 (E_a32_0.take 2) h_a32_0)]
set_option maxRecDepth 1000000 in
theorem ck_a32_e : e2_run (e2_cal S_a32 I_a32 4000 1) (e2_fin rs_a32) e2x_30 (e2_bpL cl_a32_e) (e2_cutA cl_a32_e) 4000 (e2_seek e2x_30 0) (e2_al 7 as_a32) [] E_a32 f_a32 = true := by decide +kernel
noncomputable def cl_a32_0 : List (Nat × e2_S) := [(5, e2_cutL (al_a32_0.set 4 (13, 10, 2147483678)) 2 (E_a32_0.take 2) h_a32_0),
  (53, e2_cutL (al_a32_1.set 4 (11, 2147483648, 2147483664)) 2 (E_a32_1.take 2) h_a32_1)]
set_option maxRecDepth 1000000 in
theorem ck_a32_0 : e2_runM (e2_cal S_a32 I_a32 4000 1) (e2_fin rs_a32) e2x_30 (e2_bpL cl_a32_0) (e2_cutA cl_a32_0) 4000 (e2_seek e2x_30 5) al_a32_0 [] E_a32_0 h_a32_0 = true := by decide +kernel
set_option maxRecDepth 1000000 in
theorem ci_a32_0 : e2_idl 2 (al_a32_0.set 4 (9, 0, 0)) = true := by decide +kernel
set_option maxRecDepth 1000000 in
theorem cj_a32_0 : e2_idh 2 8 h_a32_0 = true := by decide +kernel
noncomputable def cl_a32_1 : List (Nat × e2_S) := [(53, e2_cutL (al_a32_1.set 4 (13, 10, 2147483664)) 2 (E_a32_1.take 2) h_a32_1),
  (96, e2_cutL (al_a32_2.set 5 (11, 2147483648, 2147483678)) 2 (E_a32_2.take 2) h_a32_2)]
set_option maxRecDepth 1000000 in
theorem ck_a32_1 : e2_runM (e2_cal S_a32 I_a32 4000 1) (e2_fin rs_a32) e2x_30 (e2_bpL cl_a32_1) (e2_cutA cl_a32_1) 4000 (e2_seek e2x_30 53) al_a32_1 [] E_a32_1 h_a32_1 = true := by decide +kernel
set_option maxRecDepth 1000000 in
theorem ci_a32_1 : e2_idl 2 (al_a32_1.set 4 (9, 0, 0)) = true := by decide +kernel
set_option maxRecDepth 1000000 in
theorem cj_a32_1 : e2_idh 2 8 h_a32_1 = true := by decide +kernel
noncomputable def cl_a32_2 : List (Nat × e2_S) := [(96, e2_cutL (al_a32_2.set 5 (13, 10, 2147483678)) 2 (E_a32_2.take 2) h_a32_2)]
set_option maxRecDepth 1000000 in
theorem ck_a32_2 : e2_runM (e2_cal S_a32 I_a32 4000 1) (e2_fin rs_a32) e2x_30 (e2_bpL cl_a32_2) (e2_cutA cl_a32_2) 4000 (e2_seek e2x_30 96) al_a32_2 [] E_a32_2 h_a32_2 = true := by decide +kernel
set_option maxRecDepth 1000000 in
theorem ci_a32_2 : e2_idl 2 (al_a32_2.set 5 (9, 0, 0)) = true := by decide +kernel
set_option maxRecDepth 1000000 in
theorem cj_a32_2 : e2_idh 2 8 h_a32_2 = true := by decide +kernel
theorem cs_a32 (hen : en_ok) (l : Launch) : e2_smOk l 19 s_a32 := by
  refine e2_conG (H := 17) (n := 1) (C := evd_30) (S := S_a32) (I := I_a32) (fuel := 4000) hen ei_30 (e2_fa (cs_a30 hen l) (e2_fa ((cs_a31 hen l).mono (by decide)) e2_fz)) (e2_fa ein_29 (e2_fa ein_291 e2_fz)) (by decide) co_a32 fun M d _ hC hcall p e R s m args below meth c Q D cA A ads r0 ha hl0 => ?_
  have L_2 : e2_gdM M p l e R s m args below meth c Q D cA A ads r0 96 al_a32_2 [] E_a32_2 h_a32_2 := by
    refine e2_indL (u := 2) (j := 5) (lo := 2147483648) (hi := 2147483678) (b := 2) (dd := 0) hl0 (by decide) rfl rfl (Or.inr ⟨rfl, rfl⟩) rfl ci_a32_2 cj_a32_2 ?_
    intro r_2 k_2 hk_2 hp_2 hs_2 hn_2
    have hl_2 : r_2.length ≤ 3 := hs_2.len rfl
    have ha_2 := ha.ext hp_2
    exact e2_fromM hen ha_2 hcall (e2_cutA_ok (e2_fa (fun al st E h hc => hn_2 al st E h hc) e2_fz)) (hC []) (X := e2x_30) ex2_30 96 ck_a32_2
  have EN_2 := e2_entL (u := 2) (j := 5) (lo := 2147483648) (hi := 2147483678) hl0 rfl rfl rfl ci_a32_2 cj_a32_2 L_2
  have L_1 : e2_gdM M p l e R s m args below meth c Q D cA A ads r0 53 al_a32_1 [] E_a32_1 h_a32_1 := by
    refine e2_indL (u := 2) (j := 4) (lo := 2147483648) (hi := 2147483664) (b := 2) (dd := 0) hl0 (by decide) rfl rfl (Or.inr ⟨rfl, rfl⟩) rfl ci_a32_1 cj_a32_1 ?_
    intro r_1 k_1 hk_1 hp_1 hs_1 hn_1
    have hl_1 : r_1.length ≤ 3 := hs_1.len rfl
    have ha_1 := ha.ext hp_1
    exact e2_fromM hen ha_1 hcall (e2_cutA_ok (e2_fa (fun al st E h hc => hn_1 al st E h hc) (e2_fa (fun al st E h hc => (EN_2 al st E h hc).ext hp_1) e2_fz))) (hC []) (X := e2x_30) ex2_30 53 ck_a32_1
  have EN_1 := e2_entL (u := 2) (j := 4) (lo := 2147483648) (hi := 2147483664) hl0 rfl rfl rfl ci_a32_1 cj_a32_1 L_1
  have L_0 : e2_gdM M p l e R s m args below meth c Q D cA A ads r0 5 al_a32_0 [] E_a32_0 h_a32_0 := by
    refine e2_indL (u := 2) (j := 4) (lo := 2147483648) (hi := 2147483678) (b := 2) (dd := 0) hl0 (by decide) rfl rfl (Or.inr ⟨rfl, rfl⟩) rfl ci_a32_0 cj_a32_0 ?_
    intro r_0 k_0 hk_0 hp_0 hs_0 hn_0
    have hl_0 : r_0.length ≤ 3 := hs_0.len rfl
    have ha_0 := ha.ext hp_0
    exact e2_fromM hen ha_0 hcall (e2_cutA_ok (e2_fa (fun al st E h hc => hn_0 al st E h hc) (e2_fa (fun al st E h hc => (EN_1 al st E h hc).ext hp_0) e2_fz))) (hC []) (X := e2x_30) ex2_30 5 ck_a32_0
  have EN_0 := e2_entL (u := 2) (j := 4) (lo := 2147483648) (hi := 2147483678) hl0 rfl rfl rfl ci_a32_0 cj_a32_0 L_0
  exact e2_from hen ha hcall (e2_cutA_ok (e2_fa (fun al st E h hc => EN_0 al st E h hc) e2_fz)) (hC []) (X := e2x_30) ex2_30 0 ck_a32_e
/-! a33 X1_certainty -/
def as_a33 : List ev_V := [(2, 77, 0), (11, 0, 4294967295), (11, 0, 4294967295), (11, 0, 4294967295)]
def E_a33 : e2_E := [(2147483648, 2147583648, 0, 0), (2147483652, 2147483668, 1, 0)]
noncomputable def f_a33 : ev_H := (an542 : e2_Q8)
noncomputable def q_a33_0 : ev_H := (an542 : e2_Q8)
noncomputable def rs_a33 : e2_Rs := [((11, 2147483646, 2147483649), q_a33_0)]
noncomputable def s_a33 : e2_Sm := (33, as_a33, E_a33, f_a33, rs_a33)
noncomputable def S_a33 : List e2_Sm := [s_a32]
noncomputable def I_a33 : List e2_In := [(24, 2, e2x_24), (25, 3, e2x_25)]
set_option maxRecDepth 1000000 in
theorem ck_a33 : e2_run (e2_cal S_a33 I_a33 4000 1) (e2_fin rs_a33) e2x_33 (fun _ => false) (fun _ _ _ _ _ => false) 4000 (e2_seek e2x_33 0) (e2_al 6 as_a33) [] E_a33 f_a33 = true := by decide +kernel
set_option maxRecDepth 1000000 in
theorem co_a33 : e2_okSB E_a33.length as_a33 f_a33 rs_a33 = true := by decide +kernel
theorem cs_a33 (hen : en_ok) (l : Launch) : e2_smOk l 21 s_a33 := e2_con0 (H := 19) (n := 1) (C := evd_33) (S := S_a33) (I := I_a33) (fuel := 4000) [] hen ei_33 (e2_fa (cs_a32 hen l) e2_fz) (e2_fa ein_24 (e2_fa ein_25 e2_fz)) (by decide) co_a33 ex2_33 ck_a33
/-! a34 X1_question -/
def as_a34 : List ev_V := [(2, 77, 0), (11, 0, 4294967295), (11, 0, 4294967295)]
def E_a34 : e2_E := [(2147483648, 2147583648, 0, 0), (2147483652, 2147483668, 1, 0)]
noncomputable def f_a34 : ev_H := (an542 : e2_Q8)
noncomputable def q_a34_0 : ev_H := (an542 : e2_Q8)
noncomputable def rs_a34 : e2_Rs := [((11, 2147483647, 2147549184), q_a34_0)]
noncomputable def s_a34 : e2_Sm := (34, as_a34, E_a34, f_a34, rs_a34)
noncomputable def S_a34 : List e2_Sm := [s_a32]
noncomputable def I_a34 : List e2_In := [(25, 3, e2x_25)]
set_option maxRecDepth 1000000 in
theorem co_a34 : e2_okSB E_a34.length as_a34 f_a34 rs_a34 = true := by decide +kernel
def al_a34_0 : List ev_V := [(2, 77, 0), (11, 2147483648, 2147483649), (11, 0, 4294967295), (11, 2147483649, 2147549184), (11, 2147483647, 2147483688), (11, 2147483648, 2147549184), (1, 2, 4294967296), (9, 0, 0), (9, 0, 0), (9, 0, 0)]
def E_a34_0 : e2_E := [(2147483648, 2147583648, 0, 0), (2147483652, 2147483668, 1, 0), (2147483648, 2147483652, 2, 0)]
noncomputable def h_a34_0 : ev_H := (an542 : e2_Q8)
def al_a34_1 : List ev_V := [(2, 77, 0), (11, 2147483648, 2147483649), (11, 0, 4294967295), (11, 2147483649, 2147549184), (11, 2147483647, 2147483688), (11, 2147483648, 2147549184), (1, 2, 4294967296), (1, 3, 4294967296), (9, 0, 0), (9, 0, 0)]
def E_a34_1 : e2_E := [(2147483648, 2147583648, 0, 0), (2147483652, 2147483668, 1, 0), (2147483648, 2147483651, 2, 0), (2147483648, 2147483652, 3, 0)]
noncomputable def h_a34_1 : ev_H := (an542 : e2_Q8)
noncomputable def cl_a34_e : List (Nat × e2_S) := [(38, e2_cutL (al_a34_0.set 6 (11, 2147483648, 2147483652)) 2 (E_a34_0.take 2) h_a34_0)]
set_option maxRecDepth 1000000 in
theorem ck_a34_e : e2_run (e2_cal S_a34 I_a34 4000 1) (e2_fin rs_a34) e2x_34 (e2_bpL cl_a34_e) (e2_cutA cl_a34_e) 4000 (e2_seek e2x_34 0) (e2_al 10 as_a34) [] E_a34 f_a34 = true := by decide +kernel
noncomputable def cl_a34_0 : List (Nat × e2_S) := [(50, e2_cutL (al_a34_1.set 7 (11, 2147483648, 2147483652)) 3 (E_a34_1.take 3) h_a34_1)]
set_option maxRecDepth 1000000 in
theorem ck_a34_0 : e2_runM (e2_cal S_a34 I_a34 4000 1) (e2_fin rs_a34) e2x_34 (e2_bpL cl_a34_0) (e2_cutA cl_a34_0) 4000 (e2_seek e2x_34 38) al_a34_0 [] E_a34_0 h_a34_0 = true := by decide +kernel
set_option maxRecDepth 1000000 in
theorem ci_a34_0 : e2_idl 2 (al_a34_0.set 6 (9, 0, 0)) = true := by decide +kernel
set_option maxRecDepth 1000000 in
theorem cj_a34_0 : e2_idh 2 8 h_a34_0 = true := by decide +kernel
noncomputable def cl_a34_1 : List (Nat × e2_S) := [(38, e2_cutL (al_a34_0.set 6 (13, 10, 2147483652)) 2 (E_a34_0.take 2) h_a34_0),
  (50, e2_cutL (al_a34_1.set 7 (13, 11, 2147483652)) 3 (E_a34_1.take 3) h_a34_1)]
set_option maxRecDepth 1000000 in
theorem ck_a34_1 : e2_runM (e2_cal S_a34 I_a34 4000 1) (e2_fin rs_a34) e2x_34 (e2_bpL cl_a34_1) (e2_cutA cl_a34_1) 4000 (e2_seek e2x_34 50) al_a34_1 [] E_a34_1 h_a34_1 = true := by decide +kernel
set_option maxRecDepth 1000000 in
theorem ci_a34_1 : e2_idl 3 (al_a34_1.set 7 (9, 0, 0)) = true := by decide +kernel
set_option maxRecDepth 1000000 in
theorem cj_a34_1 : e2_idh 3 8 h_a34_1 = true := by decide +kernel
theorem cs_a34 (hen : en_ok) (l : Launch) : e2_smOk l 21 s_a34 := by
  refine e2_conG (H := 19) (n := 1) (C := evd_34) (S := S_a34) (I := I_a34) (fuel := 4000) hen ei_34 (e2_fa (cs_a32 hen l) e2_fz) (e2_fa ein_25 e2_fz) (by decide) co_a34 fun M d _ hC hcall p e R s m args below meth c Q D cA A ads r0 ha hl0 => ?_
  have L_0 : e2_gdM M p l e R s m args below meth c Q D cA A ads r0 38 al_a34_0 [] E_a34_0 h_a34_0 := by
    refine e2_indL (u := 2) (j := 6) (lo := 2147483648) (hi := 2147483652) (b := 2) (dd := 0) hl0 (by decide) rfl rfl (Or.inr ⟨rfl, rfl⟩) rfl ci_a34_0 cj_a34_0 ?_
    intro r_0 k_0 hk_0 hp_0 hs_0 hn_0
    have hl_0 : r_0.length ≤ 3 := hs_0.len rfl
    have ha_0 := ha.ext hp_0
    have L_1 : e2_gdM M p l e R s m args below meth c Q D cA A ads r_0 50 al_a34_1 [] E_a34_1 h_a34_1 := by
      refine e2_indL (u := 3) (j := 7) (lo := 2147483648) (hi := 2147483652) (b := 3) (dd := 0) hl_0 (by decide) rfl rfl (Or.inr ⟨rfl, rfl⟩) rfl ci_a34_1 cj_a34_1 ?_
      intro r_1 k_1 hk_1 hp_1 hs_1 hn_1
      have hl_1 : r_1.length ≤ 4 := hs_1.len rfl
      have ha_1 := ha_0.ext hp_1
      exact e2_fromM hen ha_1 hcall (e2_cutA_ok (e2_fa (fun al st E h hc => (hn_0 al st E h hc).ext hp_1) (e2_fa (fun al st E h hc => hn_1 al st E h hc) e2_fz))) (hC []) (X := e2x_34) ex2_34 50 ck_a34_1
    have EN_1 := e2_entL (u := 3) (j := 7) (lo := 2147483648) (hi := 2147483652) hl_0 rfl rfl rfl ci_a34_1 cj_a34_1 L_1
    exact e2_fromM hen ha_0 hcall (e2_cutA_ok (e2_fa (fun al st E h hc => EN_1 al st E h hc) e2_fz)) (hC []) (X := e2x_34) ex2_34 38 ck_a34_0
  have EN_0 := e2_entL (u := 2) (j := 6) (lo := 2147483648) (hi := 2147483652) hl0 rfl rfl rfl ci_a34_0 cj_a34_0 L_0
  exact e2_from hen ha hcall (e2_cutA_ok (e2_fa (fun al st E h hc => EN_0 al st E h hc) e2_fz)) (hC []) (X := e2x_34) ex2_34 0 ck_a34_e
/-! a35 X7_readNumber -/
def as_a35 : List ev_V := [(2, 34, 0)]
def E_a35 : e2_E := [(2147483648, 2147583648, 0, 0), (2147483652, 2147483668, 1, 0)]
noncomputable def f_a35 : ev_H := (an254 : e2_Q8)
noncomputable def q_a35_0 : ev_H := (an254 : e2_Q8)
noncomputable def rs_a35 : e2_Rs := [((9, 0, 0), q_a35_0)]
noncomputable def s_a35 : e2_Sm := (113, as_a35, E_a35, f_a35, rs_a35)
noncomputable def S_a35 : List e2_Sm := []
noncomputable def I_a35 : List e2_In := []
set_option maxRecDepth 1000000 in
theorem co_a35 : e2_okSB E_a35.length as_a35 f_a35 rs_a35 = true := by decide +kernel
def al_a35_0 : List ev_V := [(2, 34, 0)]
def E_a35_0 : e2_E := [(2147483648, 2147583648, 0, 0), (2147483652, 2147483668, 1, 0), (2147483648, 2147485248, 2, 0)]
def ac164 : ev_C := (7, [(11, 2147483648, 2147485248), (2, 35, 0), (1, 2, 4294967296), (11, 2147483520, 2147483775), (11, 2147483648, 2147485248), (11, 0, 4294967295), (5, 0, 0), (11, 2147482048, 2147485248)])
def an543 : e2_Q1 := (ac164, ac3)
def an544 : e2_Q2 := (an543, an67)
def an545 : e2_Q3 := (an65, an544)
def an546 : e2_Q4 := (an545, an76)
def an547 : e2_Q5 := (an546, an92)
def an548 : e2_Q6 := (an547, an124)
def an549 : e2_Q7 := (an62, an548)
def an550 : e2_Q8 := (an549, an253)
noncomputable def h_a35_0 : ev_H := (an550 : e2_Q8)
noncomputable def cl_a35_e : List (Nat × e2_S) := [(5, e2_cutL al_a35_0 2 (E_a35_0.take 2) (ev_hs h_a35_0 34 ((ev_hg h_a35_0 34).1, (ev_hg h_a35_0 34).2.set 2 (11, 2147483648, 2147485248))))]
set_option maxRecDepth 1000000 in
theorem ck_a35_e : e2_run (e2_cal S_a35 I_a35 4000 0) (e2_fin rs_a35) e2x_113 (e2_bpL cl_a35_e) (e2_cutA cl_a35_e) 4000 (e2_seek e2x_113 0) (e2_al 1 as_a35) [] E_a35 f_a35 = true := by decide +kernel
noncomputable def cl_a35_0 : List (Nat × e2_S) := [(5, e2_cutL al_a35_0 2 (E_a35_0.take 2) (ev_hs h_a35_0 34 ((ev_hg h_a35_0 34).1, (ev_hg h_a35_0 34).2.set 2 (13, 10, 2147485248))))]
set_option maxRecDepth 1000000 in
theorem ck_a35_0 : e2_runM (e2_cal S_a35 I_a35 4000 0) (e2_fin rs_a35) e2x_113 (e2_bpL cl_a35_0) (e2_cutA cl_a35_0) 4000 (e2_seek e2x_113 5) al_a35_0 [] E_a35_0 h_a35_0 = true := by decide +kernel
set_option maxRecDepth 1000000 in
theorem ci_a35_0 : e2_idl 2 al_a35_0 = true := by decide +kernel
set_option maxRecDepth 1000000 in
theorem cj_a35_0 : e2_idh 2 8 (ev_hs h_a35_0 34 ((ev_hg h_a35_0 34).1, (ev_hg h_a35_0 34).2.set 2 (7, 0, 0))) = true := by decide +kernel
set_option maxRecDepth 1000000 in
theorem cg_a35_0 : (ev_hg h_a35_0 34).1 < 50 ∧ (ev_hg h_a35_0 34).2[2]? = some (1, 2, 4294967296) := by decide +kernel
theorem cs_a35 (hen : en_ok) (l : Launch) : e2_smOk l 1 s_a35 := by
  refine e2_conG (H := 0) (n := 0) (C := evd_113) (S := S_a35) (I := I_a35) (fuel := 4000) hen ei_113 e2_fz e2_fz (by decide) co_a35 fun M d _ hC hcall p e R s m args below meth c Q D cA A ads r0 ha hl0 => ?_
  have L_0 : e2_gdM M p l e R s m args below meth c Q D cA A ads r0 5 al_a35_0 [] E_a35_0 h_a35_0 := by
    refine e2_indH (u := 2) (a := 34) (j := 2) (lo := 2147483648) (hi := 2147485248) (b := 2) (dd := 0) hl0 (by decide) rfl rfl (Or.inr ⟨rfl, rfl⟩) (by decide) cg_a35_0.1 cg_a35_0.2 ci_a35_0 cj_a35_0 rfl ?_
    intro r_0 k_0 hk_0 hp_0 hs_0 hn_0
    have hl_0 : r_0.length ≤ 3 := hs_0.len rfl
    have ha_0 := ha.ext hp_0
    exact e2_fromM hen ha_0 hcall (e2_cutA_ok (e2_fa (fun al st E h hc => hn_0 al st E h hc) e2_fz)) (hC []) (X := e2x_113) ex2_113 5 ck_a35_0
  have EN_0 := e2_entH (u := 2) (a := 34) (j := 2) (lo := 2147483648) (hi := 2147485248) hl0 rfl rfl (by decide) cg_a35_0.1 cg_a35_0.2 ci_a35_0 cj_a35_0 rfl L_0
  exact e2_from hen ha hcall (e2_cutA_ok (e2_fa (fun al st E h hc => EN_0 al st E h hc) e2_fz)) (hC []) (X := e2x_113) ex2_113 0 ck_a35_e
/-! a36 X7_readWord -/
def as_a36 : List ev_V := [(2, 34, 0)]
def E_a36 : e2_E := [(2147483648, 2147583648, 0, 0), (2147483652, 2147483668, 1, 0)]
noncomputable def f_a36 : ev_H := (an254 : e2_Q8)
noncomputable def q_a36_0 : ev_H := (an254 : e2_Q8)
noncomputable def rs_a36 : e2_Rs := [((9, 0, 0), q_a36_0)]
noncomputable def s_a36 : e2_Sm := (111, as_a36, E_a36, f_a36, rs_a36)
noncomputable def S_a36 : List e2_Sm := []
noncomputable def I_a36 : List e2_In := []
set_option maxRecDepth 1000000 in
theorem co_a36 : e2_okSB E_a36.length as_a36 f_a36 rs_a36 = true := by decide +kernel
def al_a36_0 : List ev_V := [(2, 34, 0)]
def E_a36_0 : e2_E := [(2147483648, 2147583648, 0, 0), (2147483652, 2147483668, 1, 0), (2147483648, 2147485248, 2, 0)]
noncomputable def h_a36_0 : ev_H := (an550 : e2_Q8)
noncomputable def cl_a36_e : List (Nat × e2_S) := [(5, e2_cutL al_a36_0 2 (E_a36_0.take 2) (ev_hs h_a36_0 34 ((ev_hg h_a36_0 34).1, (ev_hg h_a36_0 34).2.set 2 (11, 2147483648, 2147485248))))]
set_option maxRecDepth 1000000 in
theorem ck_a36_e : e2_run (e2_cal S_a36 I_a36 4000 0) (e2_fin rs_a36) e2x_111 (e2_bpL cl_a36_e) (e2_cutA cl_a36_e) 4000 (e2_seek e2x_111 0) (e2_al 1 as_a36) [] E_a36 f_a36 = true := by decide +kernel
noncomputable def cl_a36_0 : List (Nat × e2_S) := [(5, e2_cutL al_a36_0 2 (E_a36_0.take 2) (ev_hs h_a36_0 34 ((ev_hg h_a36_0 34).1, (ev_hg h_a36_0 34).2.set 2 (13, 10, 2147485248))))]
set_option maxRecDepth 1000000 in
theorem ck_a36_0 : e2_runM (e2_cal S_a36 I_a36 4000 0) (e2_fin rs_a36) e2x_111 (e2_bpL cl_a36_0) (e2_cutA cl_a36_0) 4000 (e2_seek e2x_111 5) al_a36_0 [] E_a36_0 h_a36_0 = true := by decide +kernel
set_option maxRecDepth 1000000 in
theorem ci_a36_0 : e2_idl 2 al_a36_0 = true := by decide +kernel
set_option maxRecDepth 1000000 in
theorem cj_a36_0 : e2_idh 2 8 (ev_hs h_a36_0 34 ((ev_hg h_a36_0 34).1, (ev_hg h_a36_0 34).2.set 2 (7, 0, 0))) = true := by decide +kernel
set_option maxRecDepth 1000000 in
theorem cg_a36_0 : (ev_hg h_a36_0 34).1 < 50 ∧ (ev_hg h_a36_0 34).2[2]? = some (1, 2, 4294967296) := by decide +kernel
theorem cs_a36 (hen : en_ok) (l : Launch) : e2_smOk l 1 s_a36 := by
  refine e2_conG (H := 0) (n := 0) (C := evd_111) (S := S_a36) (I := I_a36) (fuel := 4000) hen ei_111 e2_fz e2_fz (by decide) co_a36 fun M d _ hC hcall p e R s m args below meth c Q D cA A ads r0 ha hl0 => ?_
  have L_0 : e2_gdM M p l e R s m args below meth c Q D cA A ads r0 5 al_a36_0 [] E_a36_0 h_a36_0 := by
    refine e2_indH (u := 2) (a := 34) (j := 2) (lo := 2147483648) (hi := 2147485248) (b := 2) (dd := 0) hl0 (by decide) rfl rfl (Or.inr ⟨rfl, rfl⟩) (by decide) cg_a36_0.1 cg_a36_0.2 ci_a36_0 cj_a36_0 rfl ?_
    intro r_0 k_0 hk_0 hp_0 hs_0 hn_0
    have hl_0 : r_0.length ≤ 3 := hs_0.len rfl
    have ha_0 := ha.ext hp_0
    exact e2_fromM hen ha_0 hcall (e2_cutA_ok (e2_fa (fun al st E h hc => hn_0 al st E h hc) e2_fz)) (hC []) (X := e2x_111) ex2_111 5 ck_a36_0
  have EN_0 := e2_entH (u := 2) (a := 34) (j := 2) (lo := 2147483648) (hi := 2147485248) hl0 rfl rfl (by decide) cg_a36_0.1 cg_a36_0.2 ci_a36_0 cj_a36_0 rfl L_0
  exact e2_from hen ha hcall (e2_cutA_ok (e2_fa (fun al st E h hc => EN_0 al st E h hc) e2_fz)) (hC []) (X := e2x_111) ex2_111 0 ck_a36_e
/-! a37 X7_advance -/
def as_a37 : List ev_V := [(2, 34, 0)]
def E_a37 : e2_E := [(2147483648, 2147583648, 0, 0), (2147483652, 2147483668, 1, 0)]
noncomputable def f_a37 : ev_H := (an254 : e2_Q8)
noncomputable def q_a37_0 : ev_H := (an254 : e2_Q8)
noncomputable def rs_a37 : e2_Rs := [((9, 0, 0), q_a37_0)]
noncomputable def s_a37 : e2_Sm := (108, as_a37, E_a37, f_a37, rs_a37)
noncomputable def S_a37 : List e2_Sm := [s_a1, s_a2, s_a35, s_a36]
noncomputable def I_a37 : List e2_In := [(109, 2, e2x_109), (110, 2, e2x_110)]
set_option maxRecDepth 1000000 in
theorem co_a37 : e2_okSB E_a37.length as_a37 f_a37 rs_a37 = true := by decide +kernel
def al_a37_0 : List ev_V := [(2, 34, 0)]
def E_a37_0 : e2_E := [(2147483648, 2147583648, 0, 0), (2147483652, 2147483668, 1, 0), (2147483648, 2147485248, 2, 0)]
noncomputable def h_a37_0 : ev_H := (an550 : e2_Q8)
noncomputable def cl_a37_e : List (Nat × e2_S) := [(0, e2_cutL al_a37_0 2 (E_a37_0.take 2) (ev_hs h_a37_0 34 ((ev_hg h_a37_0 34).1, (ev_hg h_a37_0 34).2.set 2 (11, 2147483648, 2147485248))))]
set_option maxRecDepth 1000000 in
theorem ck_a37_e : e2_run (e2_cal S_a37 I_a37 4000 1) (e2_fin rs_a37) e2x_108 (e2_bpL cl_a37_e) (e2_cutA cl_a37_e) 4000 (e2_seek e2x_108 0) (e2_al 1 as_a37) [] E_a37 f_a37 = true := by decide +kernel
noncomputable def cl_a37_0 : List (Nat × e2_S) := [(0, e2_cutL al_a37_0 2 (E_a37_0.take 2) (ev_hs h_a37_0 34 ((ev_hg h_a37_0 34).1, (ev_hg h_a37_0 34).2.set 2 (13, 10, 2147485248))))]
set_option maxRecDepth 1000000 in
theorem ck_a37_0 : e2_runM (e2_cal S_a37 I_a37 4000 1) (e2_fin rs_a37) e2x_108 (e2_bpL cl_a37_0) (e2_cutA cl_a37_0) 4000 (e2_seek e2x_108 0) al_a37_0 [] E_a37_0 h_a37_0 = true := by decide +kernel
set_option maxRecDepth 1000000 in
theorem ci_a37_0 : e2_idl 2 al_a37_0 = true := by decide +kernel
set_option maxRecDepth 1000000 in
theorem cj_a37_0 : e2_idh 2 8 (ev_hs h_a37_0 34 ((ev_hg h_a37_0 34).1, (ev_hg h_a37_0 34).2.set 2 (7, 0, 0))) = true := by decide +kernel
set_option maxRecDepth 1000000 in
theorem cg_a37_0 : (ev_hg h_a37_0 34).1 < 50 ∧ (ev_hg h_a37_0 34).2[2]? = some (1, 2, 4294967296) := by decide +kernel
theorem cs_a37 (hen : en_ok) (l : Launch) (hh : e2_hand_a l) : e2_smOk l 62 s_a37 := by
  refine e2_conG (H := 60) (n := 1) (C := evd_108) (S := S_a37) (I := I_a37) (fuel := 4000) hen ei_108 (e2_fa (hh _ hm_a1) (e2_fa (hh _ hm_a2) (e2_fa ((cs_a35 hen l).mono (by decide)) (e2_fa ((cs_a36 hen l).mono (by decide)) e2_fz)))) (e2_fa ein_109 (e2_fa ein_110 e2_fz)) (by decide) co_a37 fun M d _ hC hcall p e R s m args below meth c Q D cA A ads r0 ha hl0 => ?_
  have L_0 : e2_gdM M p l e R s m args below meth c Q D cA A ads r0 0 al_a37_0 [] E_a37_0 h_a37_0 := by
    refine e2_indH (u := 2) (a := 34) (j := 2) (lo := 2147483648) (hi := 2147485248) (b := 2) (dd := 0) hl0 (by decide) rfl rfl (Or.inr ⟨rfl, rfl⟩) (by decide) cg_a37_0.1 cg_a37_0.2 ci_a37_0 cj_a37_0 rfl ?_
    intro r_0 k_0 hk_0 hp_0 hs_0 hn_0
    have hl_0 : r_0.length ≤ 3 := hs_0.len rfl
    have ha_0 := ha.ext hp_0
    exact e2_fromM hen ha_0 hcall (e2_cutA_ok (e2_fa (fun al st E h hc => hn_0 al st E h hc) e2_fz)) (hC []) (X := e2x_108) ex2_108 0 ck_a37_0
  have EN_0 := e2_entH (u := 2) (a := 34) (j := 2) (lo := 2147483648) (hi := 2147485248) hl0 rfl rfl (by decide) cg_a37_0.1 cg_a37_0.2 ci_a37_0 cj_a37_0 rfl L_0
  exact e2_from hen ha hcall (e2_cutA_ok (e2_fa (fun al st E h hc => EN_0 al st E h hc) e2_fz)) (hC []) (X := e2x_108) ex2_108 0 ck_a37_e
/-! a38 X3_expect -/
def as_a38 : List ev_V := [(2, 33, 0), (11, 2147483689, 2147483707)]
def E_a38 : e2_E := [(2147483648, 2147583648, 0, 0), (2147483652, 2147483668, 1, 0), (2147483648, 2147485248, 2, 0)]
def ac165 : ev_C := (3, [(2, 34, 0), (2, 17, 0), (1, 2, 4294967296), (11, 2147483648, 2147483649), (11, 0, 4294967295), (11, 0, 4294967295), (11, 0, 4294967295), (11, 0, 4294967295)])
def an551 : e2_Q1 := (ac165, ac3)
def an552 : e2_Q2 := (an551, an131)
def an553 : e2_Q3 := (an129, an552)
def an554 : e2_Q4 := (an553, an140)
def an555 : e2_Q5 := (an554, an156)
def an556 : e2_Q6 := (an555, an188)
def an557 : e2_Q7 := (an556, an252)
def an558 : e2_Q8 := (an126, an557)
noncomputable def f_a38 : ev_H := (an558 : e2_Q8)
noncomputable def q_a38_0 : ev_H := (an558 : e2_Q8)
noncomputable def rs_a38 : e2_Rs := [((11, 2147483648, 2147483649), q_a38_0)]
noncomputable def s_a38 : e2_Sm := (45, as_a38, E_a38, f_a38, rs_a38)
noncomputable def S_a38 : List e2_Sm := [s_a37]
noncomputable def I_a38 : List e2_In := [(43, 2, e2x_43), (44, 3, e2x_44)]
set_option maxRecDepth 1000000 in
theorem ck_a38 : e2_run (e2_cal S_a38 I_a38 4000 2) (e2_fin rs_a38) e2x_45 (fun _ => false) (fun _ _ _ _ _ => false) 4000 (e2_seek e2x_45 0) (e2_al 2 as_a38) [] E_a38 f_a38 = true := by decide +kernel
set_option maxRecDepth 1000000 in
theorem co_a38 : e2_okSB E_a38.length as_a38 f_a38 rs_a38 = true := by decide +kernel
theorem cs_a38 (hen : en_ok) (l : Launch) (hh : e2_hand_a l) : e2_smOk l 65 s_a38 := e2_con0 (H := 62) (n := 2) (C := evd_45) (S := S_a38) (I := I_a38) (fuel := 4000) [] hen ei_45 (e2_fa (cs_a37 hen l hh) e2_fz) (e2_fa ein_43 (e2_fa ein_44 e2_fz)) (by decide) co_a38 ex2_45 ck_a38
