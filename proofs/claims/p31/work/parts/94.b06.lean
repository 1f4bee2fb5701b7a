/-! CONTRACTS b, printed by a program -/
/-! b124 X10_readNow -/
def as_b124 : List ev_V := [(2, 83, 0)]
def E_b124 : e2_E := [(2147483648, 2147583648, 0, 0), (2147483648, 2147483656, 1, 0), (2147483648, 2147483688, 2, 0), (2147483648, 2147483688, 3, 0)]
def bn1515 : e2_Q4 := (bn431, bn13)
def bn1516 : e2_Q5 := (bn1515, bn371)
def bn1517 : e2_Q6 := (bn1516, bn475)
def bn1518 : e2_Q4 := (bn376, bn442)
def bn1519 : e2_Q5 := (bn1518, bn92)
def bn1520 : e2_Q6 := (bn1519, bn348)
def bn1521 : e2_Q7 := (bn1517, bn1520)
def bn1522 : e2_Q5 := (bn449, bn356)
def bn1523 : e2_Q6 := (bn1522, bn251)
def bn1524 : e2_Q7 := (bn1019, bn1523)
def bn1525 : e2_Q8 := (bn1521, bn1524)
noncomputable def f_b124 : ev_H := (bn1525 : e2_Q8)
noncomputable def q_b124_0 : ev_H := (bn1525 : e2_Q8)
noncomputable def rs_b124 : e2_Rs := [((11, 2147483647, 2147483668), q_b124_0)]
noncomputable def s_b124 : e2_Sm := (233, as_b124, E_b124, f_b124, rs_b124)
noncomputable def S_b124 : List e2_Sm := [s_b13, s_b16, s_b93]
noncomputable def I_b124 : List e2_In := []
set_option maxRecDepth 1000000 in
theorem ck_b124 : e2_run (e2_cal S_b124 I_b124 4000 0) (e2_fin rs_b124) e2x_233 (fun _ => false) (fun _ _ _ _ _ => false) 4000 (e2_seek e2x_233 0) (e2_al 1 as_b124) [] E_b124 f_b124 = true := by decide +kernel
set_option maxRecDepth 1000000 in
theorem co_b124 : e2_okSB E_b124.length as_b124 f_b124 rs_b124 = true := by decide +kernel
theorem cs_b124 (hen : en_ok) (l : Launch) : e2_smOk l 6 s_b124 := e2_con0 (H := 5) (n := 0) (C := evd_233) (S := S_b124) (I := I_b124) (fuel := 4000) [] hen ei_233 (e2_fa ((cs_b13 hen l).mono (by decide)) (e2_fa ((cs_b16 hen l).mono (by decide)) (e2_fa (cs_b93 hen l) e2_fz))) e2_fz (by decide) co_b124 ex2_233 ck_b124
/-! b125 X10_readNow -/
def as_b125 : List ev_V := [(2, 83, 0)]
def E_b125 : e2_E := [(2147483648, 2147583648, 0, 0), (2147483648, 2147483656, 1, 0), (2147483648, 2147483688, 2, 0), (2147483648, 2147483688, 3, 0)]
def bn1526 : e2_Q5 := (bn455, bn356)
def bn1527 : e2_Q6 := (bn1526, bn251)
def bn1528 : e2_Q7 := (bn1019, bn1527)
def bn1529 : e2_Q8 := (bn1521, bn1528)
noncomputable def f_b125 : ev_H := (bn1529 : e2_Q8)
noncomputable def q_b125_0 : ev_H := (bn1529 : e2_Q8)
noncomputable def rs_b125 : e2_Rs := [((11, 2147483647, 2147483668), q_b125_0)]
noncomputable def s_b125 : e2_Sm := (233, as_b125, E_b125, f_b125, rs_b125)
noncomputable def S_b125 : List e2_Sm := [s_b14, s_b17, s_b123]
noncomputable def I_b125 : List e2_In := []
set_option maxRecDepth 1000000 in
theorem ck_b125 : e2_run (e2_cal S_b125 I_b125 4000 0) (e2_fin rs_b125) e2x_233 (fun _ => false) (fun _ _ _ _ _ => false) 4000 (e2_seek e2x_233 0) (e2_al 1 as_b125) [] E_b125 f_b125 = true := by decide +kernel
set_option maxRecDepth 1000000 in
theorem co_b125 : e2_okSB E_b125.length as_b125 f_b125 rs_b125 = true := by decide +kernel
theorem cs_b125 (hen : en_ok) (l : Launch) : e2_smOk l 6 s_b125 := e2_con0 (H := 5) (n := 0) (C := evd_233) (S := S_b125) (I := I_b125) (fuel := 4000) [] hen ei_233 (e2_fa ((cs_b14 hen l).mono (by decide)) (e2_fa ((cs_b17 hen l).mono (by decide)) (e2_fa (cs_b123 hen l) e2_fz))) e2_fz (by decide) co_b125 ex2_233 ck_b125
/-! b126 X10_readNow -/
def as_b126 : List ev_V := [(2, 83, 0)]
def E_b126 : e2_E := [(2147483648, 2147583648, 0, 0), (2147483648, 2147483656, 1, 0), (2147483648, 2147483688, 2, 0), (2147483648, 2147483688, 3, 0)]
def bn1530 : e2_Q5 := (bn1515, bn397)
def bn1531 : e2_Q5 := (bn474, bn287)
def bn1532 : e2_Q6 := (bn1530, bn1531)
def bn1533 : e2_Q6 := (bn1519, bn401)
def bn1534 : e2_Q7 := (bn1532, bn1533)
def bn1535 : e2_Q4 := (bn299, bn485)
def bn1536 : e2_Q5 := (bn1535, bn187)
def bn1537 : e2_Q6 := (bn388, bn1536)
def bn1538 : e2_Q4 := (bn305, bn355)
def bn1539 : e2_Q5 := (bn449, bn1538)
def bn1540 : e2_Q6 := (bn1539, bn312)
def bn1541 : e2_Q7 := (bn1537, bn1540)
def bn1542 : e2_Q8 := (bn1534, bn1541)
noncomputable def f_b126 : ev_H := (bn1542 : e2_Q8)
noncomputable def q_b126_0 : ev_H := (bn1542 : e2_Q8)
noncomputable def rs_b126 : e2_Rs := [((11, 2147483647, 2147483668), q_b126_0)]
noncomputable def s_b126 : e2_Sm := (233, as_b126, E_b126, f_b126, rs_b126)
noncomputable def S_b126 : List e2_Sm := [s_b13, s_b18, s_b93]
noncomputable def I_b126 : List e2_In := []
set_option maxRecDepth 1000000 in
theorem ck_b126 : e2_run (e2_cal S_b126 I_b126 4000 0) (e2_fin rs_b126) e2x_233 (fun _ => false) (fun _ _ _ _ _ => false) 4000 (e2_seek e2x_233 0) (e2_al 1 as_b126) [] E_b126 f_b126 = true := by decide +kernel
set_option maxRecDepth 1000000 in
theorem co_b126 : e2_okSB E_b126.length as_b126 f_b126 rs_b126 = true := by decide +kernel
theorem cs_b126 (hen : en_ok) (l : Launch) (hh : e2_hand_b l) : e2_smOk l 63 s_b126 := e2_con0 (H := 62) (n := 0) (C := evd_233) (S := S_b126) (I := I_b126) (fuel := 4000) [] hen ei_233 (e2_fa ((cs_b13 hen l).mono (by decide)) (e2_fa (cs_b18 hen l hh) (e2_fa ((cs_b93 hen l).mono (by decide)) e2_fz))) e2_fz (by decide) co_b126 ex2_233 ck_b126
/-! b127 X10_readNow -/
def as_b127 : List ev_V := [(2, 83, 0)]
def E_b127 : e2_E := [(2147483648, 2147583648, 0, 0), (2147483648, 2147483656, 1, 0), (2147483648, 2147483688, 2, 0), (2147483648, 2147483688, 3, 0)]
def bn1543 : e2_Q5 := (bn455, bn1538)
def bn1544 : e2_Q6 := (bn1543, bn312)
def bn1545 : e2_Q7 := (bn1537, bn1544)
def bn1546 : e2_Q8 := (bn1534, bn1545)
noncomputable def f_b127 : ev_H := (bn1546 : e2_Q8)
noncomputable def q_b127_0 : ev_H := (bn1546 : e2_Q8)
noncomputable def rs_b127 : e2_Rs := [((11, 2147483647, 2147483668), q_b127_0)]
noncomputable def s_b127 : e2_Sm := (233, as_b127, E_b127, f_b127, rs_b127)
noncomputable def S_b127 : List e2_Sm := [s_b14, s_b19, s_b123]
noncomputable def I_b127 : List e2_In := []
set_option maxRecDepth 1000000 in
theorem ck_b127 : e2_run (e2_cal S_b127 I_b127 4000 0) (e2_fin rs_b127) e2x_233 (fun _ => false) (fun _ _ _ _ _ => false) 4000 (e2_seek e2x_233 0) (e2_al 1 as_b127) [] E_b127 f_b127 = true := by decide +kernel
set_option maxRecDepth 1000000 in
theorem co_b127 : e2_okSB E_b127.length as_b127 f_b127 rs_b127 = true := by decide +kernel
theorem cs_b127 (hen : en_ok) (l : Launch) (hh : e2_hand_b l) : e2_smOk l 63 s_b127 := e2_con0 (H := 62) (n := 0) (C := evd_233) (S := S_b127) (I := I_b127) (fuel := 4000) [] hen ei_233 (e2_fa ((cs_b14 hen l).mono (by decide)) (e2_fa (cs_b19 hen l hh) (e2_fa ((cs_b123 hen l).mono (by decide)) e2_fz))) e2_fz (by decide) co_b127 ex2_233 ck_b127
/-! b128 X10_readNow -/
def as_b128 : List ev_V := [(2, 83, 0)]
def E_b128 : e2_E := [(2147483648, 2147583648, 0, 0), (2147483648, 2147483656, 1, 0), (2147483648, 2147483688, 2, 0), (2147483648, 2147483688, 3, 0)]
def bn1547 : e2_Q5 := (bn1515, bn412)
def bn1548 : e2_Q6 := (bn1547, bn475)
def bn1549 : e2_Q7 := (bn1548, bn1520)
def bn1550 : e2_Q8 := (bn1549, bn1524)
noncomputable def f_b128 : ev_H := (bn1550 : e2_Q8)
noncomputable def q_b128_0 : ev_H := (bn1550 : e2_Q8)
noncomputable def rs_b128 : e2_Rs := [((11, 2147483647, 2147483668), q_b128_0)]
noncomputable def s_b128 : e2_Sm := (233, as_b128, E_b128, f_b128, rs_b128)
noncomputable def S_b128 : List e2_Sm := [s_b13, s_b20, s_b93]
noncomputable def I_b128 : List e2_In := []
set_option maxRecDepth 1000000 in
theorem ck_b128 : e2_run (e2_cal S_b128 I_b128 4000 0) (e2_fin rs_b128) e2x_233 (fun _ => false) (fun _ _ _ _ _ => false) 4000 (e2_seek e2x_233 0) (e2_al 1 as_b128) [] E_b128 f_b128 = true := by decide +kernel
set_option maxRecDepth 1000000 in
theorem co_b128 : e2_okSB E_b128.length as_b128 f_b128 rs_b128 = true := by decide +kernel
theorem cs_b128 (hen : en_ok) (l : Launch) : e2_smOk l 6 s_b128 := e2_con0 (H := 5) (n := 0) (C := evd_233) (S := S_b128) (I := I_b128) (fuel := 4000) [] hen ei_233 (e2_fa ((cs_b13 hen l).mono (by decide)) (e2_fa ((cs_b20 hen l).mono (by decide)) (e2_fa (cs_b93 hen l) e2_fz))) e2_fz (by decide) co_b128 ex2_233 ck_b128
/-! b129 X10_readNow -/
def as_b129 : List ev_V := [(2, 83, 0)]
def E_b129 : e2_E := [(2147483648, 2147583648, 0, 0), (2147483648, 2147483656, 1, 0), (2147483648, 2147483688, 2, 0), (2147483648, 2147483688, 3, 0)]
def bn1551 : e2_Q8 := (bn1549, bn1528)
noncomputable def f_b129 : ev_H := (bn1551 : e2_Q8)
noncomputable def q_b129_0 : ev_H := (bn1551 : e2_Q8)
noncomputable def rs_b129 : e2_Rs := [((11, 2147483647, 2147483668), q_b129_0)]
noncomputable def s_b129 : e2_Sm := (233, as_b129, E_b129, f_b129, rs_b129)
noncomputable def S_b129 : List e2_Sm := [s_b14, s_b21, s_b123]
noncomputable def I_b129 : List e2_In := []
set_option maxRecDepth 1000000 in
theorem ck_b129 : e2_run (e2_cal S_b129 I_b129 4000 0) (e2_fin rs_b129) e2x_233 (fun _ => false) (fun _ _ _ _ _ => false) 4000 (e2_seek e2x_233 0) (e2_al 1 as_b129) [] E_b129 f_b129 = true := by decide +kernel
set_option maxRecDepth 1000000 in
theorem co_b129 : e2_okSB E_b129.length as_b129 f_b129 rs_b129 = true := by decide +kernel
theorem cs_b129 (hen : en_ok) (l : Launch) : e2_smOk l 6 s_b129 := e2_con0 (H := 5) (n := 0) (C := evd_233) (S := S_b129) (I := I_b129) (fuel := 4000) [] hen ei_233 (e2_fa ((cs_b14 hen l).mono (by decide)) (e2_fa ((cs_b21 hen l).mono (by decide)) (e2_fa (cs_b123 hen l) e2_fz))) e2_fz (by decide) co_b129 ex2_233 ck_b129
/-! b130 X10_readNow -/
def as_b130 : List ev_V := [(2, 83, 0)]
def E_b130 : e2_E := [(2147483648, 2147583648, 0, 0), (2147483648, 2147483656, 1, 0), (2147483648, 2147483688, 2, 0), (2147483648, 2147483688, 3, 0)]
def bn1552 : e2_Q5 := (bn1515, bn421)
def bn1553 : e2_Q6 := (bn1552, bn1531)
def bn1554 : e2_Q7 := (bn1553, bn1533)
def bn1555 : e2_Q4 := (bn334, bn355)
def bn1556 : e2_Q5 := (bn449, bn1555)
def bn1557 : e2_Q6 := (bn1556, bn312)
def bn1558 : e2_Q7 := (bn1537, bn1557)
def bn1559 : e2_Q8 := (bn1554, bn1558)
noncomputable def f_b130 : ev_H := (bn1559 : e2_Q8)
noncomputable def q_b130_0 : ev_H := (bn1559 : e2_Q8)
noncomputable def rs_b130 : e2_Rs := [((11, 2147483647, 2147483668), q_b130_0)]
noncomputable def s_b130 : e2_Sm := (233, as_b130, E_b130, f_b130, rs_b130)
noncomputable def S_b130 : List e2_Sm := [s_b13, s_b22, s_b93]
noncomputable def I_b130 : List e2_In := []
set_option maxRecDepth 1000000 in
theorem ck_b130 : e2_run (e2_cal S_b130 I_b130 4000 0) (e2_fin rs_b130) e2x_233 (fun _ => false) (fun _ _ _ _ _ => false) 4000 (e2_seek e2x_233 0) (e2_al 1 as_b130) [] E_b130 f_b130 = true := by decide +kernel
set_option maxRecDepth 1000000 in
theorem co_b130 : e2_okSB E_b130.length as_b130 f_b130 rs_b130 = true := by decide +kernel
theorem cs_b130 (hen : en_ok) (l : Launch) (hh : e2_hand_b l) : e2_smOk l 63 s_b130 := e2_con0 (H := 62) (n := 0) (C := evd_233) (S := S_b130) (I := I_b130) (fuel := 4000) [] hen ei_233 (e2_fa ((cs_b13 hen l).mono (by decide)) (e2_fa (cs_b22 hen l hh) (e2_fa ((cs_b93 hen l).mono (by decide)) e2_fz))) e2_fz (by decide) co_b130 ex2_233 ck_b130
/-! b131 X10_readNow -/
def as_b131 : List ev_V := [(2, 83, 0)]
def E_b131 : e2_E := [(2147483648, 2147583648, 0, 0), (2147483648, 2147483656, 1, 0), (2147483648, 2147483688, 2, 0), (2147483648, 2147483688, 3, 0)]
def bn1560 : e2_Q5 := (bn455, bn1555)
def bn1561 : e2_Q6 := (bn1560, bn312)
def bn1562 : e2_Q7 := (bn1537, bn1561)
def bn1563 : e2_Q8 := (bn1554, bn1562)
noncomputable def f_b131 : ev_H := (bn1563 : e2_Q8)
noncomputable def q_b131_0 : ev_H := (bn1563 : e2_Q8)
noncomputable def rs_b131 : e2_Rs := [((11, 2147483647, 2147483668), q_b131_0)]
noncomputable def s_b131 : e2_Sm := (233, as_b131, E_b131, f_b131, rs_b131)
noncomputable def S_b131 : List e2_Sm := [s_b14, s_b23, s_b123]
noncomputable def I_b131 : List e2_In := []
set_option maxRecDepth 1000000 in
theorem ck_b131 : e2_run (e2_cal S_b131 I_b131 4000 0) (e2_fin rs_b131) e2x_233 (fun _ => false) (fun _ _ _ _ _ => false) 4000 (e2_seek e2x_233 0) (e2_al 1 as_b131) [] E_b131 f_b131 = true := by decide +kernel
set_option maxRecDepth 1000000 in
theorem co_b131 : e2_okSB E_b131.length as_b131 f_b131 rs_b131 = true := by decide +kernel
theorem cs_b131 (hen : en_ok) (l : Launch) (hh : e2_hand_b l) : e2_smOk l 63 s_b131 := e2_con0 (H := 62) (n := 0) (C := evd_233) (S := S_b131) (I := I_b131) (fuel := 4000) [] hen ei_233 (e2_fa ((cs_b14 hen l).mono (by decide)) (e2_fa (cs_b23 hen l hh) (e2_fa ((cs_b123 hen l).mono (by decide)) e2_fz))) e2_fz (by decide) co_b131 ex2_233 ck_b131
/-! b132 X10_valueFor -/
def as_b132 : List ev_V := [(2, 83, 0), (11, 0, 4294967295)]
def E_b132 : e2_E := [(2147483648, 2147583648, 0, 0), (2147483648, 2147483656, 1, 0), (2147483648, 2147483688, 2, 0), (2147483648, 2147483688, 3, 0)]
def bn1564 : e2_Q4 := (bn37, bn473)
def bn1565 : e2_Q5 := (bn1564, bn60)
def bn1566 : e2_Q6 := (bn267, bn1565)
def bn1567 : e2_Q6 := (bn378, bn273)
def bn1568 : e2_Q7 := (bn1566, bn1567)
def bn1569 : e2_Q2 := (bn193, bn429)
def bn1570 : e2_Q3 := (bn192, bn1569)
def bn1571 : e2_Q4 := (bn1570, bn203)
def bn1572 : e2_Q5 := (bn1571, bn219)
def bn1573 : e2_Q6 := (bn1572, bn251)
def bn1574 : e2_Q7 := (bn189, bn1573)
def bn1575 : e2_Q8 := (bn1568, bn1574)
noncomputable def f_b132 : ev_H := (bn1575 : e2_Q8)
noncomputable def q_b132_0 : ev_H := (bn1575 : e2_Q8)
noncomputable def rs_b132 : e2_Rs := [((11, 0, 4294967295), q_b132_0)]
noncomputable def s_b132 : e2_Sm := (234, as_b132, E_b132, f_b132, rs_b132)
noncomputable def S_b132 : List e2_Sm := []
noncomputable def I_b132 : List e2_In := []
set_option maxRecDepth 1000000 in
theorem co_b132 : e2_okSB E_b132.length as_b132 f_b132 rs_b132 = true := by decide +kernel
def al_b132_0 : List ev_V := [(2, 83, 0), (11, 0, 4294967295), (11, 0, 4294967295), (1, 4, 4294967296)]
def E_b132_0 : e2_E := [(2147483648, 2147583648, 0, 0), (2147483648, 2147483656, 1, 0), (2147483648, 2147483688, 2, 0), (2147483648, 2147483688, 3, 0), (2147483648, 2147483668, 4, 0)]
noncomputable def h_b132_0 : ev_H := (bn1575 : e2_Q8)
noncomputable def cl_b132_e : List (Nat × e2_S) := [(4, e2_cutL (al_b132_0.set 3 (11, 2147483648, 2147483668)) 4 (E_b132_0.take 4) h_b132_0)]
set_option maxRecDepth 1000000 in
theorem ck_b132_e : e2_run (e2_cal S_b132 I_b132 4000 0) (e2_fin rs_b132) e2x_234 (e2_bpL cl_b132_e) (e2_cutA cl_b132_e) 4000 (e2_seek e2x_234 0) (e2_al 4 as_b132) [] E_b132 f_b132 = true := by decide +kernel
noncomputable def cl_b132_0 : List (Nat × e2_S) := [(4, e2_cutL (al_b132_0.set 3 (13, 12, 2147483668)) 4 (E_b132_0.take 4) h_b132_0)]
set_option maxRecDepth 1000000 in
theorem ck_b132_0 : e2_runM (e2_cal S_b132 I_b132 4000 0) (e2_fin rs_b132) e2x_234 (e2_bpL cl_b132_0) (e2_cutA cl_b132_0) 4000 (e2_seek e2x_234 4) al_b132_0 [] E_b132_0 h_b132_0 = true := by decide +kernel
set_option maxRecDepth 1000000 in
theorem ci_b132_0 : e2_idl 4 (al_b132_0.set 3 (9, 0, 0)) = true := by decide +kernel
set_option maxRecDepth 1000000 in
theorem cj_b132_0 : e2_idh 4 8 h_b132_0 = true := by decide +kernel
theorem cs_b132 (hen : en_ok) (l : Launch) : e2_smOk l 1 s_b132 := by
  refine e2_conG (H := 0) (n := 0) (C := evd_234) (S := S_b132) (I := I_b132) (fuel := 4000) hen ei_234 e2_fz e2_fz (by decide) co_b132 fun M d _ hC hcall p e R s m args below meth c Q D cA A ads r0 ha hl0 => ?_
  have L_0 : e2_gdM M p l e R s m args below meth c Q D cA A ads r0 4 al_b132_0 [] E_b132_0 h_b132_0 := by
    refine e2_indL (u := 4) (j := 3) (lo := 2147483648) (hi := 2147483668) (b := 4) (dd := 0) hl0 (by decide) rfl rfl (Or.inr ⟨rfl, rfl⟩) rfl ci_b132_0 cj_b132_0 ?_
    intro r_0 k_0 hk_0 hp_0 hs_0 hn_0
    have hl_0 : r_0.length ≤ 5 := hs_0.len rfl
    have ha_0 := ha.ext hp_0
    exact e2_fromM hen ha_0 hcall (e2_cutA_ok (e2_fa (fun al st E h hc => hn_0 al st E h hc) e2_fz)) (hC []) (X := e2x_234) ex2_234 4 ck_b132_0
  have EN_0 := e2_entL (u := 4) (j := 3) (lo := 2147483648) (hi := 2147483668) hl0 rfl rfl rfl ci_b132_0 cj_b132_0 L_0
  exact e2_from hen ha hcall (e2_cutA_ok (e2_fa (fun al st E h hc => EN_0 al st E h hc) e2_fz)) (hC []) (X := e2x_234) ex2_234 0 ck_b132_e
/-! b133 X10_isHarm -/
def as_b133 : List ev_V := [(2, 83, 0)]
def E_b133 : e2_E := [(2147483648, 2147583648, 0, 0), (2147483648, 2147483656, 1, 0), (2147483648, 2147483688, 2, 0), (2147483648, 2147483688, 3, 0)]
def bn1576 : e2_Q7 := (bn1566, bn274)
def bn1577 : e2_Q8 := (bn1576, bn1574)
noncomputable def f_b133 : ev_H := (bn1577 : e2_Q8)
noncomputable def q_b133_0 : ev_H := (bn1577 : e2_Q8)
noncomputable def rs_b133 : e2_Rs := [((11, 2147483648, 2147483649), q_b133_0)]
noncomputable def s_b133 : e2_Sm := (235, as_b133, E_b133, f_b133, rs_b133)
noncomputable def S_b133 : List e2_Sm := []
noncomputable def I_b133 : List e2_In := []
set_option maxRecDepth 1000000 in
theorem co_b133 : e2_okSB E_b133.length as_b133 f_b133 rs_b133 = true := by decide +kernel
def al_b133_0 : List ev_V := [(2, 83, 0), (1, 4, 4294967296)]
def E_b133_0 : e2_E := [(2147483648, 2147583648, 0, 0), (2147483648, 2147483656, 1, 0), (2147483648, 2147483688, 2, 0), (2147483648, 2147483688, 3, 0), (2147483648, 2147483668, 4, 0)]
noncomputable def h_b133_0 : ev_H := (bn1577 : e2_Q8)
noncomputable def cl_b133_e : List (Nat × e2_S) := [(2, e2_cutL (al_b133_0.set 1 (11, 2147483648, 2147483668)) 4 (E_b133_0.take 4) h_b133_0)]
set_option maxRecDepth 1000000 in
theorem ck_b133_e : e2_run (e2_cal S_b133 I_b133 4000 0) (e2_fin rs_b133) e2x_235 (e2_bpL cl_b133_e) (e2_cutA cl_b133_e) 4000 (e2_seek e2x_235 0) (e2_al 2 as_b133) [] E_b133 f_b133 = true := by decide +kernel
noncomputable def cl_b133_0 : List (Nat × e2_S) := [(2, e2_cutL (al_b133_0.set 1 (13, 12, 2147483668)) 4 (E_b133_0.take 4) h_b133_0)]
set_option maxRecDepth 1000000 in
theorem ck_b133_0 : e2_runM (e2_cal S_b133 I_b133 4000 0) (e2_fin rs_b133) e2x_235 (e2_bpL cl_b133_0) (e2_cutA cl_b133_0) 4000 (e2_seek e2x_235 2) al_b133_0 [] E_b133_0 h_b133_0 = true := by decide +kernel
set_option maxRecDepth 1000000 in
theorem ci_b133_0 : e2_idl 4 (al_b133_0.set 1 (9, 0, 0)) = true := by decide +kernel
set_option maxRecDepth 1000000 in
theorem cj_b133_0 : e2_idh 4 8 h_b133_0 = true := by decide +kernel
theorem cs_b133 (hen : en_ok) (l : Launch) : e2_smOk l 1 s_b133 := by
  refine e2_conG (H := 0) (n := 0) (C := evd_235) (S := S_b133) (I := I_b133) (fuel := 4000) hen ei_235 e2_fz e2_fz (by decide) co_b133 fun M d _ hC hcall p e R s m args below meth c Q D cA A ads r0 ha hl0 => ?_
  have L_0 : e2_gdM M p l e R s m args below meth c Q D cA A ads r0 2 al_b133_0 [] E_b133_0 h_b133_0 := by
    refine e2_indL (u := 4) (j := 1) (lo := 2147483648) (hi := 2147483668) (b := 4) (dd := 0) hl0 (by decide) rfl rfl (Or.inr ⟨rfl, rfl⟩) rfl ci_b133_0 cj_b133_0 ?_
    intro r_0 k_0 hk_0 hp_0 hs_0 hn_0
    have hl_0 : r_0.length ≤ 5 := hs_0.len rfl
    have ha_0 := ha.ext hp_0
    exact e2_fromM hen ha_0 hcall (e2_cutA_ok (e2_fa (fun al st E h hc => hn_0 al st E h hc) e2_fz)) (hC []) (X := e2x_235) ex2_235 2 ck_b133_0
  have EN_0 := e2_entL (u := 4) (j := 1) (lo := 2147483648) (hi := 2147483668) hl0 rfl rfl rfl ci_b133_0 cj_b133_0 L_0
  exact e2_from hen ha hcall (e2_cutA_ok (e2_fa (fun al st E h hc => EN_0 al st E h hc) e2_fz)) (hC []) (X := e2x_235) ex2_235 0 ck_b133_e
/-! b134 X10_cellsOf -/
def as_b134 : List ev_V := [(2, 83, 0), (11, 2147483648, 2147483655)]
def E_b134 : e2_E := [(2147483648, 2147583648, 0, 0), (2147483648, 2147483656, 1, 0), (2147483648, 2147483688, 2, 0), (2147483648, 2147483688, 3, 0)]
noncomputable def f_b134 : ev_H := (bn1525 : e2_Q8)
noncomputable def q_b134_0 : ev_H := (bn1525 : e2_Q8)
noncomputable def rs_b134 : e2_Rs := [((11, 0, 4294967295), q_b134_0)]
noncomputable def s_b134 : e2_Sm := (238, as_b134, E_b134, f_b134, rs_b134)
noncomputable def S_b134 : List e2_Sm := [s_b124]
noncomputable def I_b134 : List e2_In := []
set_option maxRecDepth 1000000 in
theorem co_b134 : e2_okSB E_b134.length as_b134 f_b134 rs_b134 = true := by decide +kernel
def al_b134_0 : List ev_V := [(2, 83, 0), (11, 2147483648, 2147483655), (11, 0, 4294967295), (1, 4, 4294967296)]
def E_b134_0 : e2_E := [(2147483648, 2147583648, 0, 0), (2147483648, 2147483656, 1, 0), (2147483648, 2147483688, 2, 0), (2147483648, 2147483688, 3, 0), (2147483648, 2147483668, 4, 0)]
noncomputable def h_b134_0 : ev_H := (bn1525 : e2_Q8)
noncomputable def cl_b134_e : List (Nat × e2_S) := [(9, e2_cutL (al_b134_0.set 3 (11, 2147483648, 2147483668)) 4 (E_b134_0.take 4) h_b134_0)]
set_option maxRecDepth 1000000 in
theorem ck_b134_e : e2_run (e2_cal S_b134 I_b134 4000 0) (e2_fin rs_b134) e2x_238 (e2_bpL cl_b134_e) (e2_cutA cl_b134_e) 4000 (e2_seek e2x_238 0) (e2_al 4 as_b134) [] E_b134 f_b134 = true := by decide +kernel
noncomputable def cl_b134_0 : List (Nat × e2_S) := [(9, e2_cutL (al_b134_0.set 3 (13, 12, 2147483668)) 4 (E_b134_0.take 4) h_b134_0)]
set_option maxRecDepth 1000000 in
theorem ck_b134_0 : e2_runM (e2_cal S_b134 I_b134 4000 0) (e2_fin rs_b134) e2x_238 (e2_bpL cl_b134_0) (e2_cutA cl_b134_0) 4000 (e2_seek e2x_238 9) al_b134_0 [] E_b134_0 h_b134_0 = true := by decide +kernel
set_option maxRecDepth 1000000 in
theorem ci_b134_0 : e2_idl 4 (al_b134_0.set 3 (9, 0, 0)) = true := by decide +kernel
set_option maxRecDepth 1000000 in
theorem cj_b134_0 : e2_idh 4 8 h_b134_0 = true := by decide +kernel
theorem cs_b134 (hen : en_ok) (l : Launch) : e2_smOk l 7 s_b134 := by
  refine e2_conG (H := 6) (n := 0) (C := evd_238) (S := S_b134) (I := I_b134) (fuel := 4000) hen ei_238 (e2_fa (cs_b124 hen l) e2_fz) e2_fz (by decide) co_b134 fun M d _ hC hcall p e R s m args below meth c Q D cA A ads r0 ha hl0 => ?_
  have L_0 : e2_gdM M p l e R s m args below meth c Q D cA A ads r0 9 al_b134_0 [] E_b134_0 h_b134_0 := by
    refine e2_indL (u := 4) (j := 3) (lo := 2147483648) (hi := 2147483668) (b := 4) (dd := 0) hl0 (by decide) rfl rfl (Or.inr ⟨rfl, rfl⟩) rfl ci_b134_0 cj_b134_0 ?_
    intro r_0 k_0 hk_0 hp_0 hs_0 hn_0
    have hl_0 : r_0.length ≤ 5 := hs_0.len rfl
    have ha_0 := ha.ext hp_0
    exact e2_fromM hen ha_0 hcall (e2_cutA_ok (e2_fa (fun al st E h hc => hn_0 al st E h hc) e2_fz)) (hC []) (X := e2x_238) ex2_238 9 ck_b134_0
  have EN_0 := e2_entL (u := 4) (j := 3) (lo := 2147483648) (hi := 2147483668) hl0 rfl rfl rfl ci_b134_0 cj_b134_0 L_0
  exact e2_from hen ha hcall (e2_cutA_ok (e2_fa (fun al st E h hc => EN_0 al st E h hc) e2_fz)) (hC []) (X := e2x_238) ex2_238 0 ck_b134_e
/-! b135 X10_glyph -/
def as_b135 : List ev_V := [(2, 83, 0), (11, 0, 4294967295), (11, 0, 4294967295)]
def E_b135 : e2_E := [(2147483648, 2147583648, 0, 0), (2147483648, 2147483656, 1, 0), (2147483648, 2147483688, 2, 0), (2147483648, 2147483688, 3, 0)]
def bn1578 : e2_Q4 := (bn1570, bn448)
def bn1579 : e2_Q5 := (bn1578, bn356)
def bn1580 : e2_Q6 := (bn1579, bn251)
def bn1581 : e2_Q7 := (bn1019, bn1580)
def bn1582 : e2_Q8 := (bn1521, bn1581)
noncomputable def f_b135 : ev_H := (bn1582 : e2_Q8)
noncomputable def q_b135_0 : ev_H := (bn1582 : e2_Q8)
noncomputable def rs_b135 : e2_Rs := [((11, 0, 4294967295), q_b135_0)]
noncomputable def s_b135 : e2_Sm := (237, as_b135, E_b135, f_b135, rs_b135)
noncomputable def S_b135 : List e2_Sm := [s_b134]
noncomputable def I_b135 : List e2_In := [(212, 3, e2x_212), (217, 1, e2x_217), (219, 2, e2x_219)]
set_option maxRecDepth 1000000 in
theorem ck_b135 : e2_run (e2_cal S_b135 I_b135 4000 2) (e2_fin rs_b135) e2x_237 (fun _ => false) (fun _ _ _ _ _ => false) 4000 (e2_seek e2x_237 0) (e2_al 4 as_b135) [] E_b135 f_b135 = true := by decide +kernel
set_option maxRecDepth 1000000 in
theorem co_b135 : e2_okSB E_b135.length as_b135 f_b135 rs_b135 = true := by decide +kernel
theorem cs_b135 (hen : en_ok) (l : Launch) : e2_smOk l 10 s_b135 := e2_con0 (H := 7) (n := 2) (C := evd_237) (S := S_b135) (I := I_b135) (fuel := 4000) [] hen ei_237 (e2_fa (cs_b134 hen l) e2_fz) (e2_fa ein_212 (e2_fa ein_217 (e2_fa ein_219 e2_fz))) (by decide) co_b135 ex2_237 ck_b135
/-! b136 X10_cellsOf -/
def as_b136 : List ev_V := [(2, 83, 0), (11, 2147483648, 2147483655)]
def E_b136 : e2_E := [(2147483648, 2147583648, 0, 0), (2147483648, 2147483656, 1, 0), (2147483648, 2147483688, 2, 0), (2147483648, 2147483688, 3, 0)]
noncomputable def f_b136 : ev_H := (bn1542 : e2_Q8)
noncomputable def q_b136_0 : ev_H := (bn1542 : e2_Q8)
noncomputable def rs_b136 : e2_Rs := [((11, 0, 4294967295), q_b136_0)]
noncomputable def s_b136 : e2_Sm := (238, as_b136, E_b136, f_b136, rs_b136)
noncomputable def S_b136 : List e2_Sm := [s_b126]
noncomputable def I_b136 : List e2_In := []
set_option maxRecDepth 1000000 in
theorem co_b136 : e2_okSB E_b136.length as_b136 f_b136 rs_b136 = true := by decide +kernel
def al_b136_0 : List ev_V := [(2, 83, 0), (11, 2147483648, 2147483655), (11, 0, 4294967295), (1, 4, 4294967296)]
def E_b136_0 : e2_E := [(2147483648, 2147583648, 0, 0), (2147483648, 2147483656, 1, 0), (2147483648, 2147483688, 2, 0), (2147483648, 2147483688, 3, 0), (2147483648, 2147483668, 4, 0)]
noncomputable def h_b136_0 : ev_H := (bn1542 : e2_Q8)
noncomputable def cl_b136_e : List (Nat × e2_S) := [(9, e2_cutL (al_b136_0.set 3 (11, 2147483648, 2147483668)) 4 (E_b136_0.take 4) h_b136_0)]
set_option maxRecDepth 1000000 in
theorem ck_b136_e : e2_run (e2_cal S_b136 I_b136 4000 0) (e2_fin rs_b136) e2x_238 (e2_bpL cl_b136_e) (e2_cutA cl_b136_e) 4000 (e2_seek e2x_238 0) (e2_al 4 as_b136) [] E_b136 f_b136 = true := by decide +kernel
noncomputable def cl_b136_0 : List (Nat × e2_S) := [(9, e2_cutL (al_b136_0.set 3 (13, 12, 2147483668)) 4 (E_b136_0.take 4) h_b136_0)]
set_option maxRecDepth 1000000 in
theorem ck_b136_0 : e2_runM (e2_cal S_b136 I_b136 4000 0) (e2_fin rs_b136) e2x_238 (e2_bpL cl_b136_0) (e2_cutA cl_b136_0) 4000 (e2_seek e2x_238 9) al_b136_0 [] E_b136_0 h_b136_0 = true := by decide +kernel
set_option maxRecDepth 1000000 in
theorem ci_b136_0 : e2_idl 4 (al_b136_0.set 3 (9, 0, 0)) = true := by decide +kernel
set_option maxRecDepth 1000000 in
theorem cj_b136_0 : e2_idh 4 8 h_b136_0 = true := by decide +kernel
theorem cs_b136 (hen : en_ok) (l : Launch) (hh : e2_hand_b l) : e2_smOk l 64 s_b136 := by
  refine e2_conG (H := 63) (n := 0) (C := evd_238) (S := S_b136) (I := I_b136) (fuel := 4000) hen ei_238 (e2_fa (cs_b126 hen l hh) e2_fz) e2_fz (by decide) co_b136 fun M d _ hC hcall p e R s m args below meth c Q D cA A ads r0 ha hl0 => ?_
  have L_0 : e2_gdM M p l e R s m args below meth c Q D cA A ads r0 9 al_b136_0 [] E_b136_0 h_b136_0 := by
    refine e2_indL (u := 4) (j := 3) (lo := 2147483648) (hi := 2147483668) (b := 4) (dd := 0) hl0 (by decide) rfl rfl (Or.inr ⟨rfl, rfl⟩) rfl ci_b136_0 cj_b136_0 ?_
    intro r_0 k_0 hk_0 hp_0 hs_0 hn_0
    have hl_0 : r_0.length ≤ 5 := hs_0.len rfl
    have ha_0 := ha.ext hp_0
    exact e2_fromM hen ha_0 hcall (e2_cutA_ok (e2_fa (fun al st E h hc => hn_0 al st E h hc) e2_fz)) (hC []) (X := e2x_238) ex2_238 9 ck_b136_0
  have EN_0 := e2_entL (u := 4) (j := 3) (lo := 2147483648) (hi := 2147483668) hl0 rfl rfl rfl ci_b136_0 cj_b136_0 L_0
  exact e2_from hen ha hcall (e2_cutA_ok (e2_fa (fun al st E h hc => EN_0 al st E h hc) e2_fz)) (hC []) (X := e2x_238) ex2_238 0 ck_b136_e
/-! b137 X10_glyph -/
def as_b137 : List ev_V := [(2, 83, 0), (11, 0, 4294967295), (11, 0, 4294967295)]
def E_b137 : e2_E := [(2147483648, 2147583648, 0, 0), (2147483648, 2147483656, 1, 0), (2147483648, 2147483688, 2, 0), (2147483648, 2147483688, 3, 0)]
def bn1583 : e2_Q5 := (bn1578, bn1538)
def bn1584 : e2_Q6 := (bn1583, bn312)
def bn1585 : e2_Q7 := (bn1537, bn1584)
def bn1586 : e2_Q8 := (bn1534, bn1585)
noncomputable def f_b137 : ev_H := (bn1586 : e2_Q8)
noncomputable def q_b137_0 : ev_H := (bn1586 : e2_Q8)
noncomputable def rs_b137 : e2_Rs := [((11, 0, 4294967295), q_b137_0)]
noncomputable def s_b137 : e2_Sm := (237, as_b137, E_b137, f_b137, rs_b137)
noncomputable def S_b137 : List e2_Sm := [s_b136]
noncomputable def I_b137 : List e2_In := [(212, 3, e2x_212), (217, 1, e2x_217), (219, 2, e2x_219)]
set_option maxRecDepth 1000000 in
theorem ck_b137 : e2_run (e2_cal S_b137 I_b137 4000 2) (e2_fin rs_b137) e2x_237 (fun _ => false) (fun _ _ _ _ _ => false) 4000 (e2_seek e2x_237 0) (e2_al 4 as_b137) [] E_b137 f_b137 = true := by decide +kernel
set_option maxRecDepth 1000000 in
theorem co_b137 : e2_okSB E_b137.length as_b137 f_b137 rs_b137 = true := by decide +kernel
theorem cs_b137 (hen : en_ok) (l : Launch) (hh : e2_hand_b l) : e2_smOk l 67 s_b137 := e2_con0 (H := 64) (n := 2) (C := evd_237) (S := S_b137) (I := I_b137) (fuel := 4000) [] hen ei_237 (e2_fa (cs_b136 hen l hh) e2_fz) (e2_fa ein_212 (e2_fa ein_217 (e2_fa ein_219 e2_fz))) (by decide) co_b137 ex2_237 ck_b137
/-! b138 X10_cellsOf -/
def as_b138 : List ev_V := [(2, 83, 0), (11, 2147483648, 2147483655)]
def E_b138 : e2_E := [(2147483648, 2147583648, 0, 0), (2147483648, 2147483656, 1, 0), (2147483648, 2147483688, 2, 0), (2147483648, 2147483688, 3, 0)]
noncomputable def f_b138 : ev_H := (bn1550 : e2_Q8)
noncomputable def q_b138_0 : ev_H := (bn1550 : e2_Q8)
noncomputable def rs_b138 : e2_Rs := [((11, 0, 4294967295), q_b138_0)]
noncomputable def s_b138 : e2_Sm := (238, as_b138, E_b138, f_b138, rs_b138)
noncomputable def S_b138 : List e2_Sm := [s_b128]
noncomputable def I_b138 : List e2_In := []
set_option maxRecDepth 1000000 in
theorem co_b138 : e2_okSB E_b138.length as_b138 f_b138 rs_b138 = true := by decide +kernel
def al_b138_0 : List ev_V := [(2, 83, 0), (11, 2147483648, 2147483655), (11, 0, 4294967295), (1, 4, 4294967296)]
def E_b138_0 : e2_E := [(2147483648, 2147583648, 0, 0), (2147483648, 2147483656, 1, 0), (2147483648, 2147483688, 2, 0), (2147483648, 2147483688, 3, 0), (2147483648, 2147483668, 4, 0)]
noncomputable def h_b138_0 : ev_H := (bn1550 : e2_Q8)
noncomputable def cl_b138_e : List (Nat × e2_S) := [(9, e2_cutL (al_b138_0.set 3 (11, 2147483648, 2147483668)) 4 (E_b138_0.take 4) h_b138_0)]
set_option maxRecDepth 1000000 in
theorem ck_b138_e : e2_run (e2_cal S_b138 I_b138 4000 0) (e2_fin rs_b138) e2x_238 (e2_bpL cl_b138_e) (e2_cutA cl_b138_e) 4000 (e2_seek e2x_238 0) (e2_al 4 as_b138) [] E_b138 f_b138 = true := by decide +kernel
noncomputable def cl_b138_0 : List (Nat × e2_S) := [(9, e2_cutL (al_b138_0.set 3 (13, 12, 2147483668)) 4 (E_b138_0.take 4) h_b138_0)]
set_option maxRecDepth 1000000 in
theorem ck_b138_0 : e2_runM (e2_cal S_b138 I_b138 4000 0) (e2_fin rs_b138) e2x_238 (e2_bpL cl_b138_0) (e2_cutA cl_b138_0) 4000 (e2_seek e2x_238 9) al_b138_0 [] E_b138_0 h_b138_0 = true := by decide +kernel
set_option maxRecDepth 1000000 in
theorem ci_b138_0 : e2_idl 4 (al_b138_0.set 3 (9, 0, 0)) = true := by decide +kernel
set_option maxRecDepth 1000000 in
theorem cj_b138_0 : e2_idh 4 8 h_b138_0 = true := by decide +kernel
theorem cs_b138 (hen : en_ok) (l : Launch) : e2_smOk l 7 s_b138 := by
  refine e2_conG (H := 6) (n := 0) (C := evd_238) (S := S_b138) (I := I_b138) (fuel := 4000) hen ei_238 (e2_fa (cs_b128 hen l) e2_fz) e2_fz (by decide) co_b138 fun M d _ hC hcall p e R s m args below meth c Q D cA A ads r0 ha hl0 => ?_
  have L_0 : e2_gdM M p l e R s m args below meth c Q D cA A ads r0 9 al_b138_0 [] E_b138_0 h_b138_0 := by
    refine e2_indL (u := 4) (j := 3) (lo := 2147483648) (hi := 2147483668) (b := 4) (dd := 0) hl0 (by decide) rfl rfl (Or.inr ⟨rfl, rfl⟩) rfl ci_b138_0 cj_b138_0 ?_
    intro r_0 k_0 hk_0 hp_0 hs_0 hn_0
    have hl_0 : r_0.length ≤ 5 := hs_0.len rfl
    have ha_0 := ha.ext hp_0
    exact e2_fromM hen ha_0 hcall (e2_cutA_ok (e2_fa (fun al st E h hc => hn_0 al st E h hc) e2_fz)) (hC []) (X := e2x_238) ex2_238 9 ck_b138_0
  have EN_0 := e2_entL (u := 4) (j := 3) (lo := 2147483648) (hi := 2147483668) hl0 rfl rfl rfl ci_b138_0 cj_b138_0 L_0
  exact e2_from hen ha hcall (e2_cutA_ok (e2_fa (fun al st E h hc => EN_0 al st E h hc) e2_fz)) (hC []) (X := e2x_238) ex2_238 0 ck_b138_e
/-! b139 X10_glyph -/
def as_b139 : List ev_V := [(2, 83, 0), (11, 0, 4294967295), (11, 0, 4294967295)]
def E_b139 : e2_E := [(2147483648, 2147583648, 0, 0), (2147483648, 2147483656, 1, 0), (2147483648, 2147483688, 2, 0), (2147483648, 2147483688, 3, 0)]
def bn1587 : e2_Q8 := (bn1549, bn1581)
noncomputable def f_b139 : ev_H := (bn1587 : e2_Q8)
noncomputable def q_b139_0 : ev_H := (bn1587 : e2_Q8)
noncomputable def rs_b139 : e2_Rs := [((11, 0, 4294967295), q_b139_0)]
noncomputable def s_b139 : e2_Sm := (237, as_b139, E_b139, f_b139, rs_b139)
noncomputable def S_b139 : List e2_Sm := [s_b138]
noncomputable def I_b139 : List e2_In := [(212, 3, e2x_212), (217, 1, e2x_217), (219, 2, e2x_219)]
set_option maxRecDepth 1000000 in
theorem ck_b139 : e2_run (e2_cal S_b139 I_b139 4000 2) (e2_fin rs_b139) e2x_237 (fun _ => false) (fun _ _ _ _ _ => false) 4000 (e2_seek e2x_237 0) (e2_al 4 as_b139) [] E_b139 f_b139 = true := by decide +kernel
set_option maxRecDepth 1000000 in
theorem co_b139 : e2_okSB E_b139.length as_b139 f_b139 rs_b139 = true := by decide +kernel
theorem cs_b139 (hen : en_ok) (l : Launch) : e2_smOk l 10 s_b139 := e2_con0 (H := 7) (n := 2) (C := evd_237) (S := S_b139) (I := I_b139) (fuel := 4000) [] hen ei_237 (e2_fa (cs_b138 hen l) e2_fz) (e2_fa ein_212 (e2_fa ein_217 (e2_fa ein_219 e2_fz))) (by decide) co_b139 ex2_237 ck_b139
/-! b140 X10_cellsOf -/
def as_b140 : List ev_V := [(2, 83, 0), (11, 2147483648, 2147483655)]
def E_b140 : e2_E := [(2147483648, 2147583648, 0, 0), (2147483648, 2147483656, 1, 0), (2147483648, 2147483688, 2, 0), (2147483648, 2147483688, 3, 0)]
noncomputable def f_b140 : ev_H := (bn1559 : e2_Q8)
noncomputable def q_b140_0 : ev_H := (bn1559 : e2_Q8)
noncomputable def rs_b140 : e2_Rs := [((11, 0, 4294967295), q_b140_0)]
noncomputable def s_b140 : e2_Sm := (238, as_b140, E_b140, f_b140, rs_b140)
noncomputable def S_b140 : List e2_Sm := [s_b130]
noncomputable def I_b140 : List e2_In := []
set_option maxRecDepth 1000000 in
theorem co_b140 : e2_okSB E_b140.length as_b140 f_b140 rs_b140 = true := by decide +kernel
def al_b140_0 : List ev_V := [(2, 83, 0), (11, 2147483648, 2147483655), (11, 0, 4294967295), (1, 4, 4294967296)]
def E_b140_0 : e2_E := [(2147483648, 2147583648, 0, 0), (2147483648, 2147483656, 1, 0), (2147483648, 2147483688, 2, 0), (2147483648, 2147483688, 3, 0), (2147483648, 2147483668, 4, 0)]
noncomputable def h_b140_0 : ev_H := (bn1559 : e2_Q8)
noncomputable def cl_b140_e : List (Nat × e2_S) := [(9, e2_cutL (al_b140_0.set 3 (11, 2147483648, 2147483668)) 4 (E_b140_0.take 4) h_b140_0)]
set_option maxRecDepth 1000000 in
theorem ck_b140_e : e2_run (e2_cal S_b140 I_b140 4000 0) (e2_fin rs_b140) e2x_238 (e2_bpL cl_b140_e) (e2_cutA cl_b140_e) 4000 (e2_seek e2x_238 0) (e2_al 4 as_b140) [] E_b140 f_b140 = true := by decide +kernel
noncomputable def cl_b140_0 : List (Nat × e2_S) := [(9, e2_cutL (al_b140_0.set 3 (13, 12, 2147483668)) 4 (E_b140_0.take 4) h_b140_0)]
set_option maxRecDepth 1000000 in
theorem ck_b140_0 : e2_runM (e2_cal S_b140 I_b140 4000 0) (e2_fin rs_b140) e2x_238 (e2_bpL cl_b140_0) (e2_cutA cl_b140_0) 4000 (e2_seek e2x_238 9) al_b140_0 [] E_b140_0 h_b140_0 = true := by decide +kernel
set_option maxRecDepth 1000000 in
theorem ci_b140_0 : e2_idl 4 (al_b140_0.set 3 (9, 0, 0)) = true := by decide +kernel
set_option maxRecDepth 1000000 in
theorem cj_b140_0 : e2_idh 4 8 h_b140_0 = true := by decide +kernel
theorem cs_b140 (hen : en_ok) (l : Launch) (hh : e2_hand_b l) : e2_smOk l 64 s_b140 := by
  refine e2_conG (H := 63) (n := 0) (C := evd_238) (S := S_b140) (I := I_b140) (fuel := 4000) hen ei_238 (e2_fa (cs_b130 hen l hh) e2_fz) e2_fz (by decide) co_b140 fun M d _ hC hcall p e R s m args below meth c Q D cA A ads r0 ha hl0 => ?_
  have L_0 : e2_gdM M p l e R s m args below meth c Q D cA A ads r0 9 al_b140_0 [] E_b140_0 h_b140_0 := by
    refine e2_indL (u := 4) (j := 3) (lo := 2147483648) (hi := 2147483668) (b := 4) (dd := 0) hl0 (by decide) rfl rfl (Or.inr ⟨rfl, rfl⟩) rfl ci_b140_0 cj_b140_0 ?_
    intro r_0 k_0 hk_0 hp_0 hs_0 hn_0
    have hl_0 : r_0.length ≤ 5 := hs_0.len rfl
    have ha_0 := ha.ext hp_0
    exact e2_fromM hen ha_0 hcall (e2_cutA_ok (e2_fa (fun al st E h hc => hn_0 al st E h hc) e2_fz)) (hC []) (X := e2x_238) ex2_238 9 ck_b140_0
  have EN_0 := e2_entL (u := 4) (j := 3) (lo := 2147483648) (hi := 2147483668) hl0 rfl rfl rfl ci_b140_0 cj_b140_0 L_0
  exact e2_from hen ha hcall (e2_cutA_ok (e2_fa (fun al st E h hc => EN_0 al st E h hc) e2_fz)) (hC []) (X := e2x_238) ex2_238 0 ck_b140_e
/-! b141 X10_glyph -/
def as_b141 : List ev_V := [(2, 83, 0), (11, 0, 4294967295), (11, 0, 4294967295)]
def E_b141 : e2_E := [(2147483648, 2147583648, 0, 0), (2147483648, 2147483656, 1, 0), (2147483648, 2147483688, 2, 0), (2147483648, 2147483688, 3, 0)]
def bn1588 : e2_Q5 := (bn1578, bn1555)
def bn1589 : e2_Q6 := (bn1588, bn312)
def bn1590 : e2_Q7 := (bn1537, bn1589)
def bn1591 : e2_Q8 := (bn1554, bn1590)
noncomputable def f_b141 : ev_H := (bn1591 : e2_Q8)
noncomputable def q_b141_0 : ev_H := (bn1591 : e2_Q8)
noncomputable def rs_b141 : e2_Rs := [((11, 0, 4294967295), q_b141_0)]
noncomputable def s_b141 : e2_Sm := (237, as_b141, E_b141, f_b141, rs_b141)
noncomputable def S_b141 : List e2_Sm := [s_b140]
noncomputable def I_b141 : List e2_In := [(212, 3, e2x_212), (217, 1, e2x_217), (219, 2, e2x_219)]
set_option maxRecDepth 1000000 in
theorem ck_b141 : e2_run (e2_cal S_b141 I_b141 4000 2) (e2_fin rs_b141) e2x_237 (fun _ => false) (fun _ _ _ _ _ => false) 4000 (e2_seek e2x_237 0) (e2_al 4 as_b141) [] E_b141 f_b141 = true := by decide +kernel
set_option maxRecDepth 1000000 in
theorem co_b141 : e2_okSB E_b141.length as_b141 f_b141 rs_b141 = true := by decide +kernel
theorem cs_b141 (hen : en_ok) (l : Launch) (hh : e2_hand_b l) : e2_smOk l 67 s_b141 := e2_con0 (H := 64) (n := 2) (C := evd_237) (S := S_b141) (I := I_b141) (fuel := 4000) [] hen ei_237 (e2_fa (cs_b140 hen l hh) e2_fz) (e2_fa ein_212 (e2_fa ein_217 (e2_fa ein_219 e2_fz))) (by decide) co_b141 ex2_237 ck_b141
/-! b142 X10_signAt -/
def as_b142 : List ev_V := [(2, 83, 0), (11, 2147483648, 2147483667)]
def E_b142 : e2_E := [(2147483648, 2147583648, 0, 0), (2147483648, 2147483656, 1, 0), (2147483648, 2147483688, 2, 0), (2147483648, 2147483688, 3, 0)]
noncomputable def f_b142 : ev_H := (bn1525 : e2_Q8)
noncomputable def q_b142_0 : ev_H := (bn1525 : e2_Q8)
noncomputable def rs_b142 : e2_Rs := [((11, 2147483647, 2147483655), q_b142_0)]
noncomputable def s_b142 : e2_Sm := (239, as_b142, E_b142, f_b142, rs_b142)
noncomputable def S_b142 : List e2_Sm := [s_b124]
noncomputable def I_b142 : List e2_In := []
set_option maxRecDepth 1000000 in
theorem co_b142 : e2_okSB E_b142.length as_b142 f_b142 rs_b142 = true := by decide +kernel
def al_b142_0 : List ev_V := [(2, 83, 0), (11, 2147483648, 2147483667), (1, 4, 4294967296)]
def E_b142_0 : e2_E := [(2147483648, 2147583648, 0, 0), (2147483648, 2147483656, 1, 0), (2147483648, 2147483688, 2, 0), (2147483648, 2147483688, 3, 0), (2147483648, 2147483668, 4, 0)]
noncomputable def h_b142_0 : ev_H := (bn1525 : e2_Q8)
noncomputable def cl_b142_e : List (Nat × e2_S) := [(7, e2_cutL (al_b142_0.set 2 (11, 2147483648, 2147483668)) 4 (E_b142_0.take 4) h_b142_0)]
set_option maxRecDepth 1000000 in
theorem ck_b142_e : e2_run (e2_cal S_b142 I_b142 4000 0) (e2_fin rs_b142) e2x_239 (e2_bpL cl_b142_e) (e2_cutA cl_b142_e) 4000 (e2_seek e2x_239 0) (e2_al 3 as_b142) [] E_b142 f_b142 = true := by decide +kernel
noncomputable def cl_b142_0 : List (Nat × e2_S) := [(7, e2_cutL (al_b142_0.set 2 (13, 12, 2147483668)) 4 (E_b142_0.take 4) h_b142_0)]
set_option maxRecDepth 1000000 in
theorem ck_b142_0 : e2_runM (e2_cal S_b142 I_b142 4000 0) (e2_fin rs_b142) e2x_239 (e2_bpL cl_b142_0) (e2_cutA cl_b142_0) 4000 (e2_seek e2x_239 7) al_b142_0 [] E_b142_0 h_b142_0 = true := by decide +kernel
set_option maxRecDepth 1000000 in
theorem ci_b142_0 : e2_idl 4 (al_b142_0.set 2 (9, 0, 0)) = true := by decide +kernel
set_option maxRecDepth 1000000 in
theorem cj_b142_0 : e2_idh 4 8 h_b142_0 = true := by decide +kernel
theorem cs_b142 (hen : en_ok) (l : Launch) : e2_smOk l 7 s_b142 := by
  refine e2_conG (H := 6) (n := 0) (C := evd_239) (S := S_b142) (I := I_b142) (fuel := 4000) hen ei_239 (e2_fa (cs_b124 hen l) e2_fz) e2_fz (by decide) co_b142 fun M d _ hC hcall p e R s m args below meth c Q D cA A ads r0 ha hl0 => ?_
  have L_0 : e2_gdM M p l e R s m args below meth c Q D cA A ads r0 7 al_b142_0 [] E_b142_0 h_b142_0 := by
    refine e2_indL (u := 4) (j := 2) (lo := 2147483648) (hi := 2147483668) (b := 4) (dd := 0) hl0 (by decide) rfl rfl (Or.inr ⟨rfl, rfl⟩) rfl ci_b142_0 cj_b142_0 ?_
    intro r_0 k_0 hk_0 hp_0 hs_0 hn_0
    have hl_0 : r_0.length ≤ 5 := hs_0.len rfl
    have ha_0 := ha.ext hp_0
    exact e2_fromM hen ha_0 hcall (e2_cutA_ok (e2_fa (fun al st E h hc => hn_0 al st E h hc) e2_fz)) (hC []) (X := e2x_239) ex2_239 7 ck_b142_0
  have EN_0 := e2_entL (u := 4) (j := 2) (lo := 2147483648) (hi := 2147483668) hl0 rfl rfl rfl ci_b142_0 cj_b142_0 L_0
  exact e2_from hen ha hcall (e2_cutA_ok (e2_fa (fun al st E h hc => EN_0 al st E h hc) e2_fz)) (hC []) (X := e2x_239) ex2_239 0 ck_b142_e
/-! b143 X10_signAt -/
def as_b143 : List ev_V := [(2, 83, 0), (11, 2147483648, 2147483667)]
def E_b143 : e2_E := [(2147483648, 2147583648, 0, 0), (2147483648, 2147483656, 1, 0), (2147483648, 2147483688, 2, 0), (2147483648, 2147483688, 3, 0)]
noncomputable def f_b143 : ev_H := (bn1542 : e2_Q8)
noncomputable def q_b143_0 : ev_H := (bn1542 : e2_Q8)
noncomputable def rs_b143 : e2_Rs := [((11, 2147483647, 2147483655), q_b143_0)]
noncomputable def s_b143 : e2_Sm := (239, as_b143, E_b143, f_b143, rs_b143)
noncomputable def S_b143 : List e2_Sm := [s_b126]
noncomputable def I_b143 : List e2_In := []
set_option maxRecDepth 1000000 in
theorem co_b143 : e2_okSB E_b143.length as_b143 f_b143 rs_b143 = true := by decide +kernel
def al_b143_0 : List ev_V := [(2, 83, 0), (11, 2147483648, 2147483667), (1, 4, 4294967296)]
def E_b143_0 : e2_E := [(2147483648, 2147583648, 0, 0), (2147483648, 2147483656, 1, 0), (2147483648, 2147483688, 2, 0), (2147483648, 2147483688, 3, 0), (2147483648, 2147483668, 4, 0)]
noncomputable def h_b143_0 : ev_H := (bn1542 : e2_Q8)
noncomputable def cl_b143_e : List (Nat × e2_S) := [(7, e2_cutL (al_b143_0.set 2 (11, 2147483648, 2147483668)) 4 (E_b143_0.take 4) h_b143_0)]
set_option maxRecDepth 1000000 in
theorem ck_b143_e : e2_run (e2_cal S_b143 I_b143 4000 0) (e2_fin rs_b143) e2x_239 (e2_bpL cl_b143_e) (e2_cutA cl_b143_e) 4000 (e2_seek e2x_239 0) (e2_al 3 as_b143) [] E_b143 f_b143 = true := by decide +kernel
noncomputable def cl_b143_0 : List (Nat × e2_S) := [(7, e2_cutL (al_b143_0.set 2 (13, 12, 2147483668)) 4 (E_b143_0.take 4) h_b143_0)]
set_option maxRecDepth 1000000 in
theorem ck_b143_0 : e2_runM (e2_cal S_b143 I_b143 4000 0) (e2_fin rs_b143) e2x_239 (e2_bpL cl_b143_0) (e2_cutA cl_b143_0) 4000 (e2_seek e2x_239 7) al_b143_0 [] E_b143_0 h_b143_0 = true := by decide +kernel
set_option maxRecDepth 1000000 in
theorem ci_b143_0 : e2_idl 4 (al_b143_0.set 2 (9, 0, 0)) = true := by decide +kernel
set_option maxRecDepth 1000000 in
theorem cj_b143_0 : e2_idh 4 8 h_b143_0 = true := by decide +kernel
theorem cs_b143 (hen : en_ok) (l : Launch) (hh : e2_hand_b l) : e2_smOk l 64 s_b143 := by
  refine e2_conG (H := 63) (n := 0) (C := evd_239) (S := S_b143) (I := I_b143) (fuel := 4000) hen ei_239 (e2_fa (cs_b126 hen l hh) e2_fz) e2_fz (by decide) co_b143 fun M d _ hC hcall p e R s m args below meth c Q D cA A ads r0 ha hl0 => ?_
  have L_0 : e2_gdM M p l e R s m args below meth c Q D cA A ads r0 7 al_b143_0 [] E_b143_0 h_b143_0 := by
    refine e2_indL (u := 4) (j := 2) (lo := 2147483648) (hi := 2147483668) (b := 4) (dd := 0) hl0 (by decide) rfl rfl (Or.inr ⟨rfl, rfl⟩) rfl ci_b143_0 cj_b143_0 ?_
    intro r_0 k_0 hk_0 hp_0 hs_0 hn_0
    have hl_0 : r_0.length ≤ 5 := hs_0.len rfl
    have ha_0 := ha.ext hp_0
    exact e2_fromM hen ha_0 hcall (e2_cutA_ok (e2_fa (fun al st E h hc => hn_0 al st E h hc) e2_fz)) (hC []) (X := e2x_239) ex2_239 7 ck_b143_0
  have EN_0 := e2_entL (u := 4) (j := 2) (lo := 2147483648) (hi := 2147483668) hl0 rfl rfl rfl ci_b143_0 cj_b143_0 L_0
  exact e2_from hen ha hcall (e2_cutA_ok (e2_fa (fun al st E h hc => EN_0 al st E h hc) e2_fz)) (hC []) (X := e2x_239) ex2_239 0 ck_b143_e
/-! b144 X10_signAt -/
def as_b144 : List ev_V := [(2, 83, 0), (11, 2147483648, 2147483667)]
def E_b144 : e2_E := [(2147483648, 2147583648, 0, 0), (2147483648, 2147483656, 1, 0), (2147483648, 2147483688, 2, 0), (2147483648, 2147483688, 3, 0)]
noncomputable def f_b144 : ev_H := (bn1550 : e2_Q8)
noncomputable def q_b144_0 : ev_H := (bn1550 : e2_Q8)
noncomputable def rs_b144 : e2_Rs := [((11, 2147483647, 2147483655), q_b144_0)]
noncomputable def s_b144 : e2_Sm := (239, as_b144, E_b144, f_b144, rs_b144)
noncomputable def S_b144 : List e2_Sm := [s_b128]
noncomputable def I_b144 : List e2_In := []
set_option maxRecDepth 1000000 in
theorem co_b144 : e2_okSB E_b144.length as_b144 f_b144 rs_b144 = true := by decide +kernel
def al_b144_0 : List ev_V := [(2, 83, 0), (11, 2147483648, 2147483667), (1, 4, 4294967296)]
def E_b144_0 : e2_E := [(2147483648, 2147583648, 0, 0), (2147483648, 2147483656, 1, 0), (2147483648, 2147483688, 2, 0), (2147483648, 2147483688, 3, 0), (2147483648, 2147483668, 4, 0)]
noncomputable def h_b144_0 : ev_H := (bn1550 : e2_Q8)
noncomputable def cl_b144_e : List (Nat × e2_S) := [(7, e2_cutL (al_b144_0.set 2 (11, 2147483648, 2147483668)) 4 (E_b144_0.take 4) h_b144_0)]
set_option maxRecDepth 1000000 in
theorem ck_b144_e : e2_run (e2_cal S_b144 I_b144 4000 0) (e2_fin rs_b144) e2x_239 (e2_bpL cl_b144_e) (e2_cutA cl_b144_e) 4000 (e2_seek e2x_239 0) (e2_al 3 as_b144) [] E_b144 f_b144 = true := by decide +kernel
noncomputable def cl_b144_0 : List (Nat × e2_S) := [(7, e2_cutL (al_b144_0.set 2 (13, 12, 2147483668)) 4 (E_b144_0.take 4) h_b144_0)]
set_option maxRecDepth 1000000 in
theorem ck_b144_0 : e2_runM (e2_cal S_b144 I_b144 4000 0) (e2_fin rs_b144) e2x_239 (e2_bpL cl_b144_0) (e2_cutA cl_b144_0) 4000 (e2_seek e2x_239 7) al_b144_0 [] E_b144_0 h_b144_0 = true := by decide +kernel
set_option maxRecDepth 1000000 in
theorem ci_b144_0 : e2_idl 4 (al_b144_0.set 2 (9, 0, 0)) = true := by decide +kernel
set_option maxRecDepth 1000000 in
theorem cj_b144_0 : e2_idh 4 8 h_b144_0 = true := by decide +kernel
theorem cs_b144 (hen : en_ok) (l : Launch) : e2_smOk l 7 s_b144 := by
  refine e2_conG (H := 6) (n := 0) (C := evd_239) (S := S_b144) (I := I_b144) (fuel := 4000) hen ei_239 (e2_fa (cs_b128 hen l) e2_fz) e2_fz (by decide) co_b144 fun M d _ hC hcall p e R s m args below meth c Q D cA A ads r0 ha hl0 => ?_
  have L_0 : e2_gdM M p l e R s m args below meth c Q D cA A ads r0 7 al_b144_0 [] E_b144_0 h_b144_0 := by
    refine e2_indL (u := 4) (j := 2) (lo := 2147483648) (hi := 2147483668) (b := 4) (dd := 0) hl0 (by decide) rfl rfl (Or.inr ⟨rfl, rfl⟩) rfl ci_b144_0 cj_b144_0 ?_
    intro r_0 k_0 hk_0 hp_0 hs_0 hn_0
    have hl_0 : r_0.length ≤ 5 := hs_0.len rfl
    have ha_0 := ha.ext hp_0
    exact e2_fromM hen ha_0 hcall (e2_cutA_ok (e2_fa (fun al st E h hc => hn_0 al st E h hc) e2_fz)) (hC []) (X := e2x_239) ex2_239 7 ck_b144_0
  have EN_0 := e2_entL (u := 4) (j := 2) (lo := 2147483648) (hi := 2147483668) hl0 rfl rfl rfl ci_b144_0 cj_b144_0 L_0
  exact e2_from hen ha hcall (e2_cutA_ok (e2_fa (fun al st E h hc => EN_0 al st E h hc) e2_fz)) (hC []) (X := e2x_239) ex2_239 0 ck_b144_e
/-! b145 X10_signAt -/
def as_b145 : List ev_V := [(2, 83, 0), (11, 2147483648, 2147483667)]
def E_b145 : e2_E := [(2147483648, 2147583648, 0, 0), (2147483648, 2147483656, 1, 0), (2147483648, 2147483688, 2, 0), (2147483648, 2147483688, 3, 0)]
noncomputable def f_b145 : ev_H := (bn1559 : e2_Q8)
noncomputable def q_b145_0 : ev_H := (bn1559 : e2_Q8)
noncomputable def rs_b145 : e2_Rs := [((11, 2147483647, 2147483655), q_b145_0)]
noncomputable def s_b145 : e2_Sm := (239, as_b145, E_b145, f_b145, rs_b145)
noncomputable def S_b145 : List e2_Sm := [s_b130]
noncomputable def I_b145 : List e2_In := []
set_option maxRecDepth 1000000 in
theorem co_b145 : e2_okSB E_b145.length as_b145 f_b145 rs_b145 = true := by decide +kernel
def al_b145_0 : List ev_V := [(2, 83, 0), (11, 2147483648, 2147483667), (1, 4, 4294967296)]
def E_b145_0 : e2_E := [(2147483648, 2147583648, 0, 0), (2147483648, 2147483656, 1, 0), (2147483648, 2147483688, 2, 0), (2147483648, 2147483688, 3, 0), (2147483648, 2147483668, 4, 0)]
noncomputable def h_b145_0 : ev_H := (bn1559 : e2_Q8)
noncomputable def cl_b145_e : List (Nat × e2_S) := [(7, e2_cutL (al_b145_0.set 2 (11, 2147483648, 2147483668)) 4 (E_b145_0.take 4) h_b145_0)]
set_option maxRecDepth 1000000 in
theorem ck_b145_e : e2_run (e2_cal S_b145 I_b145 4000 0) (e2_fin rs_b145) e2x_239 (e2_bpL cl_b145_e) (e2_cutA cl_b145_e) 4000 (e2_seek e2x_239 0) (e2_al 3 as_b145) [] E_b145 f_b145 = true := by decide +kernel
noncomputable def cl_b145_0 : List (Nat × e2_S) := [(7, e2_cutL (al_b145_0.set 2 (13, 12, 2147483668)) 4 (E_b145_0.take 4) h_b145_0)]
set_option maxRecDepth 1000000 in
theorem ck_b145_0 : e2_runM (e2_cal S_b145 I_b145 4000 0) (e2_fin rs_b145) e2x_239 (e2_bpL cl_b145_0) (e2_cutA cl_b145_0) 4000 (e2_seek e2x_239 7) al_b145_0 [] E_b145_0 h_b145_0 = true := by decide +kernel
set_option maxRecDepth 1000000 in
theorem ci_b145_0 : e2_idl 4 (al_b145_0.set 2 (9, 0, 0)) = true := by decide +kernel
set_option maxRecDepth 1000000 in
theorem cj_b145_0 : e2_idh 4 8 h_b145_0 = true := by decide +kernel
theorem cs_b145 (hen : en_ok) (l : Launch) (hh : e2_hand_b l) : e2_smOk l 64 s_b145 := by
  refine e2_conG (H := 63) (n := 0) (C := evd_239) (S := S_b145) (I := I_b145) (fuel := 4000) hen ei_239 (e2_fa (cs_b130 hen l hh) e2_fz) e2_fz (by decide) co_b145 fun M d _ hC hcall p e R s m args below meth c Q D cA A ads r0 ha hl0 => ?_
  have L_0 : e2_gdM M p l e R s m args below meth c Q D cA A ads r0 7 al_b145_0 [] E_b145_0 h_b145_0 := by
    refine e2_indL (u := 4) (j := 2) (lo := 2147483648) (hi := 2147483668) (b := 4) (dd := 0) hl0 (by decide) rfl rfl (Or.inr ⟨rfl, rfl⟩) rfl ci_b145_0 cj_b145_0 ?_
    intro r_0 k_0 hk_0 hp_0 hs_0 hn_0
    have hl_0 : r_0.length ≤ 5 := hs_0.len rfl
    have ha_0 := ha.ext hp_0
    exact e2_fromM hen ha_0 hcall (e2_cutA_ok (e2_fa (fun al st E h hc => hn_0 al st E h hc) e2_fz)) (hC []) (X := e2x_239) ex2_239 7 ck_b145_0
  have EN_0 := e2_entL (u := 4) (j := 2) (lo := 2147483648) (hi := 2147483668) hl0 rfl rfl rfl ci_b145_0 cj_b145_0 L_0
  exact e2_from hen ha hcall (e2_cutA_ok (e2_fa (fun al st E h hc => EN_0 al st E h hc) e2_fz)) (hC []) (X := e2x_239) ex2_239 0 ck_b145_e
/-! b146 X10_plot -/
def as_b146 : List ev_V := [(2, 83, 0), (11, 0, 4294967295), (11, 0, 4294967295)]
def E_b146 : e2_E := [(2147483648, 2147583648, 0, 0), (2147483648, 2147483656, 1, 0), (2147483648, 2147483688, 2, 0), (2147483648, 2147483688, 3, 0)]
noncomputable def f_b146 : ev_H := (bn1525 : e2_Q8)
noncomputable def q_b146_0 : ev_H := (bn1525 : e2_Q8)
noncomputable def rs_b146 : e2_Rs := [((11, 0, 4294967295), q_b146_0)]
noncomputable def s_b146 : e2_Sm := (240, as_b146, E_b146, f_b146, rs_b146)
noncomputable def S_b146 : List e2_Sm := [s_b142]
noncomputable def I_b146 : List e2_In := [(212, 3, e2x_212), (215, 2, e2x_215), (216, 1, e2x_216), (218, 2, e2x_218)]
set_option maxRecDepth 1000000 in
theorem ck_b146 : e2_run (e2_cal S_b146 I_b146 4000 2) (e2_fin rs_b146) e2x_240 (fun _ => false) (fun _ _ _ _ _ => false) 4000 (e2_seek e2x_240 0) (e2_al 3 as_b146) [] E_b146 f_b146 = true := by decide +kernel
set_option maxRecDepth 1000000 in
theorem co_b146 : e2_okSB E_b146.length as_b146 f_b146 rs_b146 = true := by decide +kernel
theorem cs_b146 (hen : en_ok) (l : Launch) : e2_smOk l 10 s_b146 := e2_con0 (H := 7) (n := 2) (C := evd_240) (S := S_b146) (I := I_b146) (fuel := 4000) [] hen ei_240 (e2_fa (cs_b142 hen l) e2_fz) (e2_fa ein_212 (e2_fa ein_215 (e2_fa ein_216 (e2_fa ein_218 e2_fz)))) (by decide) co_b146 ex2_240 ck_b146
/-! b147 X10_plot -/
def as_b147 : List ev_V := [(2, 83, 0), (11, 0, 4294967295), (11, 0, 4294967295)]
def E_b147 : e2_E := [(2147483648, 2147583648, 0, 0), (2147483648, 2147483656, 1, 0), (2147483648, 2147483688, 2, 0), (2147483648, 2147483688, 3, 0)]
noncomputable def f_b147 : ev_H := (bn1542 : e2_Q8)
noncomputable def q_b147_0 : ev_H := (bn1542 : e2_Q8)
noncomputable def rs_b147 : e2_Rs := [((11, 0, 4294967295), q_b147_0)]
noncomputable def s_b147 : e2_Sm := (240, as_b147, E_b147, f_b147, rs_b147)
noncomputable def S_b147 : List e2_Sm := [s_b143]
noncomputable def I_b147 : List e2_In := [(212, 3, e2x_212), (215, 2, e2x_215), (216, 1, e2x_216), (218, 2, e2x_218)]
set_option maxRecDepth 1000000 in
theorem ck_b147 : e2_run (e2_cal S_b147 I_b147 4000 2) (e2_fin rs_b147) e2x_240 (fun _ => false) (fun _ _ _ _ _ => false) 4000 (e2_seek e2x_240 0) (e2_al 3 as_b147) [] E_b147 f_b147 = true := by decide +kernel
set_option maxRecDepth 1000000 in
theorem co_b147 : e2_okSB E_b147.length as_b147 f_b147 rs_b147 = true := by decide +kernel
theorem cs_b147 (hen : en_ok) (l : Launch) (hh : e2_hand_b l) : e2_smOk l 67 s_b147 := e2_con0 (H := 64) (n := 2) (C := evd_240) (S := S_b147) (I := I_b147) (fuel := 4000) [] hen ei_240 (e2_fa (cs_b143 hen l hh) e2_fz) (e2_fa ein_212 (e2_fa ein_215 (e2_fa ein_216 (e2_fa ein_218 e2_fz)))) (by decide) co_b147 ex2_240 ck_b147
/-! b148 X10_plot -/
def as_b148 : List ev_V := [(2, 83, 0), (11, 0, 4294967295), (11, 0, 4294967295)]
def E_b148 : e2_E := [(2147483648, 2147583648, 0, 0), (2147483648, 2147483656, 1, 0), (2147483648, 2147483688, 2, 0), (2147483648, 2147483688, 3, 0)]
noncomputable def f_b148 : ev_H := (bn1550 : e2_Q8)
noncomputable def q_b148_0 : ev_H := (bn1550 : e2_Q8)
noncomputable def rs_b148 : e2_Rs := [((11, 0, 4294967295), q_b148_0)]
noncomputable def s_b148 : e2_Sm := (240, as_b148, E_b148, f_b148, rs_b148)
noncomputable def S_b148 : List e2_Sm := [s_b144]
noncomputable def I_b148 : List e2_In := [(212, 3, e2x_212), (215, 2, e2x_215), (216, 1, e2x_216), (218, 2, e2x_218)]
set_option maxRecDepth 1000000 in
theorem ck_b148 : e2_run (e2_cal S_b148 I_b148 4000 2) (e2_fin rs_b148) e2x_240 (fun _ => false) (fun _ _ _ _ _ => false) 4000 (e2_seek e2x_240 0) (e2_al 3 as_b148) [] E_b148 f_b148 = true := by decide +kernel
set_option maxRecDepth 1000000 in
theorem co_b148 : e2_okSB E_b148.length as_b148 f_b148 rs_b148 = true := by decide +kernel
theorem cs_b148 (hen : en_ok) (l : Launch) : e2_smOk l 10 s_b148 := e2_con0 (H := 7) (n := 2) (C := evd_240) (S := S_b148) (I := I_b148) (fuel := 4000) [] hen ei_240 (e2_fa (cs_b144 hen l) e2_fz) (e2_fa ein_212 (e2_fa ein_215 (e2_fa ein_216 (e2_fa ein_218 e2_fz)))) (by decide) co_b148 ex2_240 ck_b148
/-! b149 X10_plot -/
def as_b149 : List ev_V := [(2, 83, 0), (11, 0, 4294967295), (11, 0, 4294967295)]
def E_b149 : e2_E := [(2147483648, 2147583648, 0, 0), (2147483648, 2147483656, 1, 0), (2147483648, 2147483688, 2, 0), (2147483648, 2147483688, 3, 0)]
noncomputable def f_b149 : ev_H := (bn1559 : e2_Q8)
noncomputable def q_b149_0 : ev_H := (bn1559 : e2_Q8)
noncomputable def rs_b149 : e2_Rs := [((11, 0, 4294967295), q_b149_0)]
noncomputable def s_b149 : e2_Sm := (240, as_b149, E_b149, f_b149, rs_b149)
noncomputable def S_b149 : List e2_Sm := [s_b145]
noncomputable def I_b149 : List e2_In := [(212, 3, e2x_212), (215, 2, e2x_215), (216, 1, e2x_216), (218, 2, e2x_218)]
set_option maxRecDepth 1000000 in
theorem ck_b149 : e2_run (e2_cal S_b149 I_b149 4000 2) (e2_fin rs_b149) e2x_240 (fun _ => false) (fun _ _ _ _ _ => false) 4000 (e2_seek e2x_240 0) (e2_al 3 as_b149) [] E_b149 f_b149 = true := by decide +kernel
set_option maxRecDepth 1000000 in
theorem co_b149 : e2_okSB E_b149.length as_b149 f_b149 rs_b149 = true := by decide +kernel
theorem cs_b149 (hen : en_ok) (l : Launch) (hh : e2_hand_b l) : e2_smOk l 67 s_b149 := e2_con0 (H := 64) (n := 2) (C := evd_240) (S := S_b149) (I := I_b149) (fuel := 4000) [] hen ei_240 (e2_fa (cs_b145 hen l hh) e2_fz) (e2_fa ein_212 (e2_fa ein_215 (e2_fa ein_216 (e2_fa ein_218 e2_fz)))) (by decide) co_b149 ex2_240 ck_b149
/-! b150 X10_mow -/
def as_b150 : List ev_V := [(2, 83, 0), (11, 0, 4294967295)]
def E_b150 : e2_E := [(2147483648, 2147583648, 0, 0), (2147483648, 2147483656, 1, 0), (2147483648, 2147483688, 2, 0), (2147483648, 2147483688, 3, 0)]
def bn1592 : e2_Q3 := (bn345, bn106)
def bn1593 : e2_Q4 := (bn100, bn1592)
def bn1594 : e2_Q5 := (bn1593, bn123)
def bn1595 : e2_Q6 := (bn93, bn1594)
def bn1596 : e2_Q7 := (bn62, bn1595)
def bn1597 : e2_Q8 := (bn1596, bn253)
noncomputable def f_b150 : ev_H := (bn1597 : e2_Q8)
def bn1598 : e2_Q8 := (bn1596, bn261)
noncomputable def q_b150_0 : ev_H := (bn1598 : e2_Q8)
noncomputable def q_b150_1 : ev_H := (bn1597 : e2_Q8)
noncomputable def rs_b150 : e2_Rs := [((11, 0, 4294967295), q_b150_0), ((0, 4294967295, 0), q_b150_1)]
noncomputable def s_b150 : e2_Sm := (243, as_b150, E_b150, f_b150, rs_b150)
noncomputable def S_b150 : List e2_Sm := [s_b1, s_b2, s_b12]
noncomputable def I_b150 : List e2_In := [(212, 3, e2x_212), (216, 1, e2x_216), (218, 2, e2x_218)]
set_option maxRecDepth 1000000 in
theorem ck_b150 : e2_run (e2_cal S_b150 I_b150 4000 2) (e2_fin rs_b150) e2x_243 (fun _ => false) (fun _ _ _ _ _ => false) 4000 (e2_seek e2x_243 0) (e2_al 2 as_b150) [] E_b150 f_b150 = true := by decide +kernel
set_option maxRecDepth 1000000 in
theorem co_b150 : e2_okSB E_b150.length as_b150 f_b150 rs_b150 = true := by decide +kernel
theorem cs_b150 (hen : en_ok) (l : Launch) (hh : e2_hand_b l) : e2_smOk l 63 s_b150 := e2_con0 (H := 60) (n := 2) (C := evd_243) (S := S_b150) (I := I_b150) (fuel := 4000) [] hen ei_243 (e2_fa (hh _ hm_b1) (e2_fa (hh _ hm_b2) (e2_fa ((cs_b12 hen l).mono (by decide)) e2_fz))) (e2_fa ein_212 (e2_fa ein_216 (e2_fa ein_218 e2_fz))) (by decide) co_b150 ex2_243 ck_b150
/-! b151 X10_sow -/
def as_b151 : List ev_V := [(2, 83, 0), (11, 0, 4294967295)]
def E_b151 : e2_E := [(2147483648, 2147583648, 0, 0), (2147483648, 2147483656, 1, 0), (2147483648, 2147483688, 2, 0), (2147483648, 2147483688, 3, 0)]
noncomputable def f_b151 : ev_H := (bn1597 : e2_Q8)
noncomputable def q_b151_0 : ev_H := (bn1597 : e2_Q8)
noncomputable def q_b151_1 : ev_H := (bn1598 : e2_Q8)
noncomputable def rs_b151 : e2_Rs := [((0, 4294967295, 0), q_b151_0), ((11, 0, 4294967295), q_b151_1)]
noncomputable def s_b151 : e2_Sm := (244, as_b151, E_b151, f_b151, rs_b151)
noncomputable def S_b151 : List e2_Sm := [s_b1, s_b2, s_b12]
noncomputable def I_b151 : List e2_In := [(212, 3, e2x_212), (216, 1, e2x_216), (218, 2, e2x_218)]
set_option maxRecDepth 1000000 in
theorem ck_b151 : e2_run (e2_cal S_b151 I_b151 4000 2) (e2_fin rs_b151) e2x_244 (fun _ => false) (fun _ _ _ _ _ => false) 4000 (e2_seek e2x_244 0) (e2_al 2 as_b151) [] E_b151 f_b151 = true := by decide +kernel
set_option maxRecDepth 1000000 in
theorem co_b151 : e2_okSB E_b151.length as_b151 f_b151 rs_b151 = true := by decide +kernel
theorem cs_b151 (hen : en_ok) (l : Launch) (hh : e2_hand_b l) : e2_smOk l 63 s_b151 := e2_con0 (H := 60) (n := 2) (C := evd_244) (S := S_b151) (I := I_b151) (fuel := 4000) [] hen ei_244 (e2_fa (hh _ hm_b1) (e2_fa (hh _ hm_b2) (e2_fa ((cs_b12 hen l).mono (by decide)) e2_fz))) (e2_fa ein_212 (e2_fa ein_216 (e2_fa ein_218 e2_fz))) (by decide) co_b151 ex2_244 ck_b151
/-! b152 X10_goYear -/
def as_b152 : List ev_V := [(2, 83, 0)]
def E_b152 : e2_E := [(2147483648, 2147583648, 0, 0), (2147483648, 2147483656, 1, 0), (2147483648, 2147483688, 2, 0), (2147483648, 2147483688, 3, 0)]
def bn1599 : e2_Q4 := (bn1570, bn454)
def bn1600 : e2_Q5 := (bn1599, bn356)
def bn1601 : e2_Q6 := (bn1600, bn251)
def bn1602 : e2_Q7 := (bn1019, bn1601)
def bn1603 : e2_Q8 := (bn1521, bn1602)
noncomputable def f_b152 : ev_H := (bn1603 : e2_Q8)
noncomputable def q_b152_0 : ev_H := (bn1603 : e2_Q8)
noncomputable def rs_b152 : e2_Rs := [((11, 2147483647, 2147483668), q_b152_0)]
noncomputable def s_b152 : e2_Sm := (245, as_b152, E_b152, f_b152, rs_b152)
noncomputable def S_b152 : List e2_Sm := [s_b125]
noncomputable def I_b152 : List e2_In := [(213, 2, e2x_213), (216, 1, e2x_216)]
set_option maxRecDepth 1000000 in
theorem co_b152 : e2_okSB E_b152.length as_b152 f_b152 rs_b152 = true := by decide +kernel
def al_b152_0 : List ev_V := [(2, 83, 0), (11, 2147483647, 2147483668), (1, 4, 4294967296), (9, 0, 0)]
def E_b152_0 : e2_E := [(2147483648, 2147583648, 0, 0), (2147483648, 2147483656, 1, 0), (2147483648, 2147483688, 2, 0), (2147483648, 2147483688, 3, 0), (2147483648, 2147483668, 4, 0)]
noncomputable def h_b152_0 : ev_H := (bn1603 : e2_Q8)
def al_b152_1 : List ev_V := [(2, 83, 0), (11, 2147483647, 2147483668), (1, 4, 4294967296), (9, 0, 0)]
def E_b152_1 : e2_E := [(2147483648, 2147583648, 0, 0), (2147483648, 2147483656, 1, 0), (2147483648, 2147483688, 2, 0), (2147483648, 2147483688, 3, 0), (2147483648, 2147483668, 4, 0)]
noncomputable def h_b152_1 : ev_H := (bn1603 : e2_Q8)
noncomputable def cl_b152_e : List (Nat × e2_S) := [(7, e2_cutL (al_b152_1.set 2 (11, 2147483648, 2147483668)) 4 (E_b152_1.take 4) h_b152_1)]
set_option maxRecDepth 1000000 in
theorem ck_b152_e : e2_run (e2_cal S_b152 I_b152 4000 1) (e2_fin rs_b152) e2x_245 (e2_bpL cl_b152_e) (e2_cutA cl_b152_e) 4000 (e2_seek e2x_245 0) (e2_al 4 as_b152) [] E_b152 f_b152 = true := by decide +kernel
noncomputable def cl_b152_0 : List (Nat × e2_S) := [(174, e2_cutL (al_b152_0.set 2 (13, 12, 2147483668)) 4 (E_b152_0.take 4) h_b152_0)]
set_option maxRecDepth 1000000 in
theorem ck_b152_0 : e2_runM (e2_cal S_b152 I_b152 4000 1) (e2_fin rs_b152) e2x_245 (e2_bpL cl_b152_0) (e2_cutA cl_b152_0) 4000 (e2_seek e2x_245 174) al_b152_0 [] E_b152_0 h_b152_0 = true := by decide +kernel
set_option maxRecDepth 1000000 in
theorem ci_b152_0 : e2_idl 4 (al_b152_0.set 2 (9, 0, 0)) = true := by decide +kernel
set_option maxRecDepth 1000000 in
theorem cj_b152_0 : e2_idh 4 8 h_b152_0 = true := by decide +kernel
noncomputable def cl_b152_1 : List (Nat × e2_S) := [(174, e2_cutL (al_b152_0.set 2 (11, 2147483648, 2147483668)) 4 (E_b152_0.take 4) h_b152_0),
  (7, e2_cutL (al_b152_1.set 2 (13, 12, 2147483668)) 4 (E_b152_1.take 4) h_b152_1)]
set_option maxRecDepth 1000000 in
theorem ck_b152_1 : e2_runM (e2_cal S_b152 I_b152 4000 1) (e2_fin rs_b152) e2x_245 (e2_bpL cl_b152_1) (e2_cutA cl_b152_1) 4000 (e2_seek e2x_245 7) al_b152_1 [] E_b152_1 h_b152_1 = true := by decide +kernel
set_option maxRecDepth 1000000 in
theorem ci_b152_1 : e2_idl 4 (al_b152_1.set 2 (9, 0, 0)) = true := by decide +kernel
set_option maxRecDepth 1000000 in
theorem cj_b152_1 : e2_idh 4 8 h_b152_1 = true := by decide +kernel
theorem cs_b152 (hen : en_ok) (l : Launch) : e2_smOk l 8 s_b152 := by
  refine e2_conG (H := 6) (n := 1) (C := evd_245) (S := S_b152) (I := I_b152) (fuel := 4000) hen ei_245 (e2_fa (cs_b125 hen l) e2_fz) (e2_fa ein_213 (e2_fa ein_216 e2_fz)) (by decide) co_b152 fun M d _ hC hcall p e R s m args below meth c Q D cA A ads r0 ha hl0 => ?_
  have L_0 : e2_gdM M p l e R s m args below meth c Q D cA A ads r0 174 al_b152_0 [] E_b152_0 h_b152_0 := by
    refine e2_indL (u := 4) (j := 2) (lo := 2147483648) (hi := 2147483668) (b := 4) (dd := 0) hl0 (by decide) rfl rfl (Or.inr ⟨rfl, rfl⟩) rfl ci_b152_0 cj_b152_0 ?_
    intro r_0 k_0 hk_0 hp_0 hs_0 hn_0
    have hl_0 : r_0.length ≤ 5 := hs_0.len rfl
    have ha_0 := ha.ext hp_0
    exact e2_fromM hen ha_0 hcall (e2_cutA_ok (e2_fa (fun al st E h hc => hn_0 al st E h hc) e2_fz)) (hC []) (X := e2x_245) ex2_245 174 ck_b152_0
  have EN_0 := e2_entL (u := 4) (j := 2) (lo := 2147483648) (hi := 2147483668) hl0 rfl rfl rfl ci_b152_0 cj_b152_0 L_0
  have L_1 : e2_gdM M p l e R s m args below meth c Q D cA A ads r0 7 al_b152_1 [] E_b152_1 h_b152_1 := by
    refine e2_indL (u := 4) (j := 2) (lo := 2147483648) (hi := 2147483668) (b := 4) (dd := 0) hl0 (by decide) rfl rfl (Or.inr ⟨rfl, rfl⟩) rfl ci_b152_1 cj_b152_1 ?_
    intro r_1 k_1 hk_1 hp_1 hs_1 hn_1
    have hl_1 : r_1.length ≤ 5 := hs_1.len rfl
    have ha_1 := ha.ext hp_1
    exact e2_fromM hen ha_1 hcall (e2_cutA_ok (e2_fa (fun al st E h hc => (EN_0 al st E h hc).ext hp_1) (e2_fa (fun al st E h hc => hn_1 al st E h hc) e2_fz))) (hC []) (X := e2x_245) ex2_245 7 ck_b152_1
  have EN_1 := e2_entL (u := 4) (j := 2) (lo := 2147483648) (hi := 2147483668) hl0 rfl rfl rfl ci_b152_1 cj_b152_1 L_1
  exact e2_from hen ha hcall (e2_cutA_ok (e2_fa (fun al st E h hc => EN_1 al st E h hc) e2_fz)) (hC []) (X := e2x_245) ex2_245 0 ck_b152_e
