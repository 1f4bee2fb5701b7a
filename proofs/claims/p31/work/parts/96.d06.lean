/-! CONTRACTS d, printed by a program -/
/-! d124 X10_readNow -/
def as_d124 : List ev_V := [(2, 83, 0)]
def E_d124 : e2_E := [(2147483648, 2147583648, 0, 0), (2147483648, 2147483656, 1, 0), (2147483648, 2147483688, 2, 0), (2147483648, 2147483688, 3, 0)]
def dn1515 : e2_Q4 := (dn431, dn13)
def dn1516 : e2_Q5 := (dn1515, dn371)
def dn1517 : e2_Q6 := (dn1516, dn475)
def dn1518 : e2_Q4 := (dn376, dn442)
def dn1519 : e2_Q5 := (dn1518, dn92)
def dn1520 : e2_Q6 := (dn1519, dn348)
def dn1521 : e2_Q7 := (dn1517, dn1520)
def dn1522 : e2_Q5 := (dn449, dn356)
def dn1523 : e2_Q6 := (dn1522, dn251)
def dn1524 : e2_Q7 := (dn1019, dn1523)
def dn1525 : e2_Q8 := (dn1521, dn1524)
noncomputable def f_d124 : ev_H := (dn1525 : e2_Q8)
noncomputable def q_d124_0 : ev_H := (dn1525 : e2_Q8)
noncomputable def rs_d124 : e2_Rs := [((11, 2147483647, 2147483668), q_d124_0)]
noncomputable def s_d124 : e2_Sm := (233, as_d124, E_d124, f_d124, rs_d124)
noncomputable def S_d124 : List e2_Sm := [s_d13, s_d16, s_d93]
noncomputable def I_d124 : List e2_In := []
set_option maxRecDepth 1000000 in
theorem ck_d124 : e2_run (e2_cal S_d124 I_d124 4000 0) (e2_fin rs_d124) e2x_233 (fun _ => false) (fun _ _ _ _ _ => false) 4000 (e2_seek e2x_233 0) (e2_al 1 as_d124) [] E_d124 f_d124 = true := by decide +kernel
set_option maxRecDepth 1000000 in
theorem co_d124 : e2_okSB E_d124.length as_d124 f_d124 rs_d124 = true := by decide +kernel
theorem cs_d124 (hen : en_ok) (l : Launch) : e2_smOk l 6 s_d124 := e2_con0 (H := 5) (n := 0) (C := evd_233) (S := S_d124) (I := I_d124) (fuel := 4000) [] hen ei_233 (e2_fa ((cs_d13 hen l).mono (by decide)) (e2_fa ((cs_d16 hen l).mono (by decide)) (e2_fa (cs_d93 hen l) e2_fz))) e2_fz (by decide) co_d124 ex2_233 ck_d124
/-! d125 X10_readNow -/
def as_d125 : List ev_V := [(2, 83, 0)]
def E_d125 : e2_E := [(2147483648, 2147583648, 0, 0), (2147483648, 2147483656, 1, 0), (2147483648, 2147483688, 2, 0), (2147483648, 2147483688, 3, 0)]
def dn1526 : e2_Q5 := (dn455, dn356)
def dn1527 : e2_Q6 := (dn1526, dn251)
def dn1528 : e2_Q7 := (dn1019, dn1527)
def dn1529 : e2_Q8 := (dn1521, dn1528)
noncomputable def f_d125 : ev_H := (dn1529 : e2_Q8)
noncomputable def q_d125_0 : ev_H := (dn1529 : e2_Q8)
noncomputable def rs_d125 : e2_Rs := [((11, 2147483647, 2147483668), q_d125_0)]
noncomputable def s_d125 : e2_Sm := (233, as_d125, E_d125, f_d125, rs_d125)
noncomputable def S_d125 : List e2_Sm := [s_d14, s_d17, s_d123]
noncomputable def I_d125 : List e2_In := []
set_option maxRecDepth 1000000 in
theorem ck_d125 : e2_run (e2_cal S_d125 I_d125 4000 0) (e2_fin rs_d125) e2x_233 (fun _ => false) (fun _ _ _ _ _ => false) 4000 (e2_seek e2x_233 0) (e2_al 1 as_d125) [] E_d125 f_d125 = true := by decide +kernel
set_option maxRecDepth 1000000 in
theorem co_d125 : e2_okSB E_d125.length as_d125 f_d125 rs_d125 = true := by decide +kernel
theorem cs_d125 (hen : en_ok) (l : Launch) : e2_smOk l 6 s_d125 := e2_con0 (H := 5) (n := 0) (C := evd_233) (S := S_d125) (I := I_d125) (fuel := 4000) [] hen ei_233 (e2_fa ((cs_d14 hen l).mono (by decide)) (e2_fa ((cs_d17 hen l).mono (by decide)) (e2_fa (cs_d123 hen l) e2_fz))) e2_fz (by decide) co_d125 ex2_233 ck_d125
/-! d126 X10_readNow -/
def as_d126 : List ev_V := [(2, 83, 0)]
def E_d126 : e2_E := [(2147483648, 2147583648, 0, 0), (2147483648, 2147483656, 1, 0), (2147483648, 2147483688, 2, 0), (2147483648, 2147483688, 3, 0)]
def dn1530 : e2_Q5 := (dn1515, dn397)
def dn1531 : e2_Q5 := (dn474, dn287)
def dn1532 : e2_Q6 := (dn1530, dn1531)
def dn1533 : e2_Q6 := (dn1519, dn401)
def dn1534 : e2_Q7 := (dn1532, dn1533)
def dn1535 : e2_Q4 := (dn299, dn485)
def dn1536 : e2_Q5 := (dn1535, dn187)
def dn1537 : e2_Q6 := (dn388, dn1536)
def dn1538 : e2_Q4 := (dn305, dn355)
def dn1539 : e2_Q5 := (dn449, dn1538)
def dn1540 : e2_Q6 := (dn1539, dn312)
def dn1541 : e2_Q7 := (dn1537, dn1540)
def dn1542 : e2_Q8 := (dn1534, dn1541)
noncomputable def f_d126 : ev_H := (dn1542 : e2_Q8)
noncomputable def q_d126_0 : ev_H := (dn1542 : e2_Q8)
noncomputable def rs_d126 : e2_Rs := [((11, 2147483647, 2147483668), q_d126_0)]
noncomputable def s_d126 : e2_Sm := (233, as_d126, E_d126, f_d126, rs_d126)
noncomputable def S_d126 : List e2_Sm := [s_d13, s_d18, s_d93]
noncomputable def I_d126 : List e2_In := []
set_option maxRecDepth 1000000 in
theorem ck_d126 : e2_run (e2_cal S_d126 I_d126 4000 0) (e2_fin rs_d126) e2x_233 (fun _ => false) (fun _ _ _ _ _ => false) 4000 (e2_seek e2x_233 0) (e2_al 1 as_d126) [] E_d126 f_d126 = true := by decide +kernel
set_option maxRecDepth 1000000 in
theorem co_d126 : e2_okSB E_d126.length as_d126 f_d126 rs_d126 = true := by decide +kernel
theorem cs_d126 (hen : en_ok) (l : Launch) (hh : e2_hand_d l) : e2_smOk l 63 s_d126 := e2_con0 (H := 62) (n := 0) (C := evd_233) (S := S_d126) (I := I_d126) (fuel := 4000) [] hen ei_233 (e2_fa ((cs_d13 hen l).mono (by decide)) (e2_fa (cs_d18 hen l hh) (e2_fa ((cs_d93 hen l).mono (by decide)) e2_fz))) e2_fz (by decide) co_d126 ex2_233 ck_d126
/-! d127 X10_readNow -/
def as_d127 : List ev_V := [(2, 83, 0)]
def E_d127 : e2_E := [(2147483648, 2147583648, 0, 0), (2147483648, 2147483656, 1, 0), (2147483648, 2147483688, 2, 0), (2147483648, 2147483688, 3, 0)]
def dn1543 : e2_Q5 := (dn455, dn1538)
def dn1544 : e2_Q6 := (dn1543, dn312)
def dn1545 : e2_Q7 := (dn1537, dn1544)
def dn1546 : e2_Q8 := (dn1534, dn1545)
noncomputable def f_d127 : ev_H := (dn1546 : e2_Q8)
noncomputable def q_d127_0 : ev_H := (dn1546 : e2_Q8)
noncomputable def rs_d127 : e2_Rs := [((11, 2147483647, 2147483668), q_d127_0)]
noncomputable def s_d127 : e2_Sm := (233, as_d127, E_d127, f_d127, rs_d127)
noncomputable def S_d127 : List e2_Sm := [s_d14, s_d19, s_d123]
noncomputable def I_d127 : List e2_In := []
set_option maxRecDepth 1000000 in
theorem ck_d127 : e2_run (e2_cal S_d127 I_d127 4000 0) (e2_fin rs_d127) e2x_233 (fun _ => false) (fun _ _ _ _ _ => false) 4000 (e2_seek e2x_233 0) (e2_al 1 as_d127) [] E_d127 f_d127 = true := by decide +kernel
set_option maxRecDepth 1000000 in
theorem co_d127 : e2_okSB E_d127.length as_d127 f_d127 rs_d127 = true := by decide +kernel
theorem cs_d127 (hen : en_ok) (l : Launch) (hh : e2_hand_d l) : e2_smOk l 63 s_d127 := e2_con0 (H := 62) (n := 0) (C := evd_233) (S := S_d127) (I := I_d127) (fuel := 4000) [] hen ei_233 (e2_fa ((cs_d14 hen l).mono (by decide)) (e2_fa (cs_d19 hen l hh) (e2_fa ((cs_d123 hen l).mono (by decide)) e2_fz))) e2_fz (by decide) co_d127 ex2_233 ck_d127
/-! d128 X10_readNow -/
def as_d128 : List ev_V := [(2, 83, 0)]
def E_d128 : e2_E := [(2147483648, 2147583648, 0, 0), (2147483648, 2147483656, 1, 0), (2147483648, 2147483688, 2, 0), (2147483648, 2147483688, 3, 0)]
def dn1547 : e2_Q5 := (dn1515, dn412)
def dn1548 : e2_Q6 := (dn1547, dn475)
def dn1549 : e2_Q7 := (dn1548, dn1520)
def dn1550 : e2_Q8 := (dn1549, dn1524)
noncomputable def f_d128 : ev_H := (dn1550 : e2_Q8)
noncomputable def q_d128_0 : ev_H := (dn1550 : e2_Q8)
noncomputable def rs_d128 : e2_Rs := [((11, 2147483647, 2147483668), q_d128_0)]
noncomputable def s_d128 : e2_Sm := (233, as_d128, E_d128, f_d128, rs_d128)
noncomputable def S_d128 : List e2_Sm := [s_d13, s_d20, s_d93]
noncomputable def I_d128 : List e2_In := []
set_option maxRecDepth 1000000 in
theorem ck_d128 : e2_run (e2_cal S_d128 I_d128 4000 0) (e2_fin rs_d128) e2x_233 (fun _ => false) (fun _ _ _ _ _ => false) 4000 (e2_seek e2x_233 0) (e2_al 1 as_d128) [] E_d128 f_d128 = true := by decide +kernel
set_option maxRecDepth 1000000 in
theorem co_d128 : e2_okSB E_d128.length as_d128 f_d128 rs_d128 = true := by decide +kernel
theorem cs_d128 (hen : en_ok) (l : Launch) : e2_smOk l 6 s_d128 := e2_con0 (H := 5) (n := 0) (C := evd_233) (S := S_d128) (I := I_d128) (fuel := 4000) [] hen ei_233 (e2_fa ((cs_d13 hen l).mono (by decide)) (e2_fa ((cs_d20 hen l).mono (by decide)) (e2_fa (cs_d93 hen l) e2_fz))) e2_fz (by decide) co_d128 ex2_233 ck_d128
/-! d129 X10_readNow -/
def as_d129 : List ev_V := [(2, 83, 0)]
def E_d129 : e2_E := [(2147483648, 2147583648, 0, 0), (2147483648, 2147483656, 1, 0), (2147483648, 2147483688, 2, 0), (2147483648, 2147483688, 3, 0)]
def dn1551 : e2_Q8 := (dn1549, dn1528)
noncomputable def f_d129 : ev_H := (dn1551 : e2_Q8)
noncomputable def q_d129_0 : ev_H := (dn1551 : e2_Q8)
noncomputable def rs_d129 : e2_Rs := [((11, 2147483647, 2147483668), q_d129_0)]
noncomputable def s_d129 : e2_Sm := (233, as_d129, E_d129, f_d129, rs_d129)
noncomputable def S_d129 : List e2_Sm := [s_d14, s_d21, s_d123]
noncomputable def I_d129 : List e2_In := []
set_option maxRecDepth 1000000 in
theorem ck_d129 : e2_run (e2_cal S_d129 I_d129 4000 0) (e2_fin rs_d129) e2x_233 (fun _ => false) (fun _ _ _ _ _ => false) 4000 (e2_seek e2x_233 0) (e2_al 1 as_d129) [] E_d129 f_d129 = true := by decide +kernel
set_option maxRecDepth 1000000 in
theorem co_d129 : e2_okSB E_d129.length as_d129 f_d129 rs_d129 = true := by decide +kernel
theorem cs_d129 (hen : en_ok) (l : Launch) : e2_smOk l 6 s_d129 := e2_con0 (H := 5) (n := 0) (C := evd_233) (S := S_d129) (I := I_d129) (fuel := 4000) [] hen ei_233 (e2_fa ((cs_d14 hen l).mono (by decide)) (e2_fa ((cs_d21 hen l).mono (by decide)) (e2_fa (cs_d123 hen l) e2_fz))) e2_fz (by decide) co_d129 ex2_233 ck_d129
/-! d130 X10_readNow -/
def as_d130 : List ev_V := [(2, 83, 0)]
def E_d130 : e2_E := [(2147483648, 2147583648, 0, 0), (2147483648, 2147483656, 1, 0), (2147483648, 2147483688, 2, 0), (2147483648, 2147483688, 3, 0)]
def dn1552 : e2_Q5 := (dn1515, dn421)
def dn1553 : e2_Q6 := (dn1552, dn1531)
def dn1554 : e2_Q7 := (dn1553, dn1533)
def dn1555 : e2_Q4 := (dn334, dn355)
def dn1556 : e2_Q5 := (dn449, dn1555)
def dn1557 : e2_Q6 := (dn1556, dn312)
def dn1558 : e2_Q7 := (dn1537, dn1557)
def dn1559 : e2_Q8 := (dn1554, dn1558)
noncomputable def f_d130 : ev_H := (dn1559 : e2_Q8)
noncomputable def q_d130_0 : ev_H := (dn1559 : e2_Q8)
noncomputable def rs_d130 : e2_Rs := [((11, 2147483647, 2147483668), q_d130_0)]
noncomputable def s_d130 : e2_Sm := (233, as_d130, E_d130, f_d130, rs_d130)
noncomputable def S_d130 : List e2_Sm := [s_d13, s_d22, s_d93]
noncomputable def I_d130 : List e2_In := []
set_option maxRecDepth 1000000 in
theorem ck_d130 : e2_run (e2_cal S_d130 I_d130 4000 0) (e2_fin rs_d130) e2x_233 (fun _ => false) (fun _ _ _ _ _ => false) 4000 (e2_seek e2x_233 0) (e2_al 1 as_d130) [] E_d130 f_d130 = true := by decide +kernel
set_option maxRecDepth 1000000 in
theorem co_d130 : e2_okSB E_d130.length as_d130 f_d130 rs_d130 = true := by decide +kernel
theorem cs_d130 (hen : en_ok) (l : Launch) (hh : e2_hand_d l) : e2_smOk l 63 s_d130 := e2_con0 (H := 62) (n := 0) (C := evd_233) (S := S_d130) (I := I_d130) (fuel := 4000) [] hen ei_233 (e2_fa ((cs_d13 hen l).mono (by decide)) (e2_fa (cs_d22 hen l hh) (e2_fa ((cs_d93 hen l).mono (by decide)) e2_fz))) e2_fz (by decide) co_d130 ex2_233 ck_d130
/-! d131 X10_readNow -/
def as_d131 : List ev_V := [(2, 83, 0)]
def E_d131 : e2_E := [(2147483648, 2147583648, 0, 0), (2147483648, 2147483656, 1, 0), (2147483648, 2147483688, 2, 0), (2147483648, 2147483688, 3, 0)]
def dn1560 : e2_Q5 := (dn455, dn1555)
def dn1561 : e2_Q6 := (dn1560, dn312)
def dn1562 : e2_Q7 := (dn1537, dn1561)
def dn1563 : e2_Q8 := (dn1554, dn1562)
noncomputable def f_d131 : ev_H := (dn1563 : e2_Q8)
noncomputable def q_d131_0 : ev_H := (dn1563 : e2_Q8)
noncomputable def rs_d131 : e2_Rs := [((11, 2147483647, 2147483668), q_d131_0)]
noncomputable def s_d131 : e2_Sm := (233, as_d131, E_d131, f_d131, rs_d131)
noncomputable def S_d131 : List e2_Sm := [s_d14, s_d23, s_d123]
noncomputable def I_d131 : List e2_In := []
set_option maxRecDepth 1000000 in
theorem ck_d131 : e2_run (e2_cal S_d131 I_d131 4000 0) (e2_fin rs_d131) e2x_233 (fun _ => false) (fun _ _ _ _ _ => false) 4000 (e2_seek e2x_233 0) (e2_al 1 as_d131) [] E_d131 f_d131 = true := by decide +kernel
set_option maxRecDepth 1000000 in
theorem co_d131 : e2_okSB E_d131.length as_d131 f_d131 rs_d131 = true := by decide +kernel
theorem cs_d131 (hen : en_ok) (l : Launch) (hh : e2_hand_d l) : e2_smOk l 63 s_d131 := e2_con0 (H := 62) (n := 0) (C := evd_233) (S := S_d131) (I := I_d131) (fuel := 4000) [] hen ei_233 (e2_fa ((cs_d14 hen l).mono (by decide)) (e2_fa (cs_d23 hen l hh) (e2_fa ((cs_d123 hen l).mono (by decide)) e2_fz))) e2_fz (by decide) co_d131 ex2_233 ck_d131
/-! d132 X10_valueFor -/
def as_d132 : List ev_V := [(2, 83, 0), (11, 0, 4294967295)]
def E_d132 : e2_E := [(2147483648, 2147583648, 0, 0), (2147483648, 2147483656, 1, 0), (2147483648, 2147483688, 2, 0), (2147483648, 2147483688, 3, 0)]
def dn1564 : e2_Q4 := (dn37, dn473)
def dn1565 : e2_Q5 := (dn1564, dn60)
def dn1566 : e2_Q6 := (dn267, dn1565)
def dn1567 : e2_Q6 := (dn378, dn273)
def dn1568 : e2_Q7 := (dn1566, dn1567)
def dn1569 : e2_Q2 := (dn193, dn429)
def dn1570 : e2_Q3 := (dn192, dn1569)
def dn1571 : e2_Q4 := (dn1570, dn203)
def dn1572 : e2_Q5 := (dn1571, dn219)
def dn1573 : e2_Q6 := (dn1572, dn251)
def dn1574 : e2_Q7 := (dn189, dn1573)
def dn1575 : e2_Q8 := (dn1568, dn1574)
noncomputable def f_d132 : ev_H := (dn1575 : e2_Q8)
noncomputable def q_d132_0 : ev_H := (dn1575 : e2_Q8)
noncomputable def rs_d132 : e2_Rs := [((11, 0, 4294967295), q_d132_0)]
noncomputable def s_d132 : e2_Sm := (234, as_d132, E_d132, f_d132, rs_d132)
noncomputable def S_d132 : List e2_Sm := []
noncomputable def I_d132 : List e2_In := []
set_option maxRecDepth 1000000 in
theorem co_d132 : e2_okSB E_d132.length as_d132 f_d132 rs_d132 = true := by decide +kernel
def al_d132_0 : List ev_V := [(2, 83, 0), (11, 0, 4294967295), (11, 0, 4294967295), (1, 4, 4294967296)]
def E_d132_0 : e2_E := [(2147483648, 2147583648, 0, 0), (2147483648, 2147483656, 1, 0), (2147483648, 2147483688, 2, 0), (2147483648, 2147483688, 3, 0), (2147483648, 2147483668, 4, 0)]
noncomputable def h_d132_0 : ev_H := (dn1575 : e2_Q8)
noncomputable def cl_d132_e : List (Nat × e2_S) := [(4, e2_cutL (al_d132_0.set 3 (11, 2147483648, 2147483668)) 4 (E_d132_0.take 4) h_d132_0)]
set_option maxRecDepth 1000000 in
theorem ck_d132_e : e2_run (e2_cal S_d132 I_d132 4000 0) (e2_fin rs_d132) e2x_234 (e2_bpL cl_d132_e) (e2_cutA cl_d132_e) 4000 (e2_seek e2x_234 0) (e2_al 4 as_d132) [] E_d132 f_d132 = true := by decide +kernel
noncomputable def cl_d132_0 : List (Nat × e2_S) := [(4, e2_cutL (al_d132_0.set 3 (13, 12, 2147483668)) 4 (E_d132_0.take 4) h_d132_0)]
set_option maxRecDepth 1000000 in
theorem ck_d132_0 : e2_runM (e2_cal S_d132 I_d132 4000 0) (e2_fin rs_d132) e2x_234 (e2_bpL cl_d132_0) (e2_cutA cl_d132_0) 4000 (e2_seek e2x_234 4) al_d132_0 [] E_d132_0 h_d132_0 = true := by decide +kernel
set_option maxRecDepth 1000000 in
theorem ci_d132_0 : e2_idl 4 (al_d132_0.set 3 (9, 0, 0)) = true := by decide +kernel
set_option maxRecDepth 1000000 in
theorem cj_d132_0 : e2_idh 4 8 h_d132_0 = true := by decide +kernel
theorem cs_d132 (hen : en_ok) (l : Launch) : e2_smOk l 1 s_d132 := by
  refine e2_conG (H := 0) (n := 0) (C := evd_234) (S := S_d132) (I := I_d132) (fuel := 4000) hen ei_234 e2_fz e2_fz (by decide) co_d132 fun M d _ hC hcall p e R s m args below meth c Q D cA A ads r0 ha hl0 => ?_
  have L_0 : e2_gdM M p l e R s m args below meth c Q D cA A ads r0 4 al_d132_0 [] E_d132_0 h_d132_0 := by
    refine e2_indL (u := 4) (j := 3) (lo := 2147483648) (hi := 2147483668) (b := 4) (dd := 0) hl0 (by decide) rfl rfl (Or.inr ⟨rfl, rfl⟩) rfl ci_d132_0 cj_d132_0 ?_
    intro r_0 k_0 hk_0 hp_0 hs_0 hn_0
    have hl_0 : r_0.length ≤ 5 := hs_0.len rfl
    have ha_0 := ha.ext hp_0
    exact e2_fromM hen ha_0 hcall (e2_cutA_ok (e2_fa (fun al st E h hc => hn_0 al st E h hc) e2_fz)) (hC []) (X := e2x_234) ex2_234 4 ck_d132_0
  have EN_0 := e2_entL (u := 4) (j := 3) (lo := 2147483648) (hi := 2147483668) hl0 rfl rfl rfl ci_d132_0 cj_d132_0 L_0
  exact e2_from hen ha hcall (e2_cutA_ok (e2_fa (fun al st E h hc => EN_0 al st E h hc) e2_fz)) (hC []) (X := e2x_234) ex2_234 0 ck_d132_e
/-! d133 X10_isHarm -/
def as_d133 : List ev_V := [(2, 83, 0)]
def E_d133 : e2_E := [(2147483648, 2147583648, 0, 0), (2147483648, 2147483656, 1, 0), (2147483648, 2147483688, 2, 0), (2147483648, 2147483688, 3, 0)]
def dn1576 : e2_Q7 := (dn1566, dn274)
def dn1577 : e2_Q8 := (dn1576, dn1574)
noncomputable def f_d133 : ev_H := (dn1577 : e2_Q8)
noncomputable def q_d133_0 : ev_H := (dn1577 : e2_Q8)
noncomputable def rs_d133 : e2_Rs := [((11, 2147483648, 2147483649), q_d133_0)]
noncomputable def s_d133 : e2_Sm := (235, as_d133, E_d133, f_d133, rs_d133)
noncomputable def S_d133 : List e2_Sm := []
noncomputable def I_d133 : List e2_In := []
set_option maxRecDepth 1000000 in
theorem co_d133 : e2_okSB E_d133.length as_d133 f_d133 rs_d133 = true := by decide +kernel
def al_d133_0 : List ev_V := [(2, 83, 0), (1, 4, 4294967296)]
def E_d133_0 : e2_E := [(2147483648, 2147583648, 0, 0), (2147483648, 2147483656, 1, 0), (2147483648, 2147483688, 2, 0), (2147483648, 2147483688, 3, 0), (2147483648, 2147483668, 4, 0)]
noncomputable def h_d133_0 : ev_H := (dn1577 : e2_Q8)
noncomputable def cl_d133_e : List (Nat × e2_S) := [(2, e2_cutL (al_d133_0.set 1 (11, 2147483648, 2147483668)) 4 (E_d133_0.take 4) h_d133_0)]
set_option maxRecDepth 1000000 in
theorem ck_d133_e : e2_run (e2_cal S_d133 I_d133 4000 0) (e2_fin rs_d133) e2x_235 (e2_bpL cl_d133_e) (e2_cutA cl_d133_e) 4000 (e2_seek e2x_235 0) (e2_al 2 as_d133) [] E_d133 f_d133 = true := by decide +kernel
noncomputable def cl_d133_0 : List (Nat × e2_S) := [(2, e2_cutL (al_d133_0.set 1 (13, 12, 2147483668)) 4 (E_d133_0.take 4) h_d133_0)]
set_option maxRecDepth 1000000 in
theorem ck_d133_0 : e2_runM (e2_cal S_d133 I_d133 4000 0) (e2_fin rs_d133) e2x_235 (e2_bpL cl_d133_0) (e2_cutA cl_d133_0) 4000 (e2_seek e2x_235 2) al_d133_0 [] E_d133_0 h_d133_0 = true := by decide +kernel
set_option maxRecDepth 1000000 in
theorem ci_d133_0 : e2_idl 4 (al_d133_0.set 1 (9, 0, 0)) = true := by decide +kernel
set_option maxRecDepth 1000000 in
theorem cj_d133_0 : e2_idh 4 8 h_d133_0 = true := by decide +kernel
theorem cs_d133 (hen : en_ok) (l : Launch) : e2_smOk l 1 s_d133 := by
  refine e2_conG (H := 0) (n := 0) (C := evd_235) (S := S_d133) (I := I_d133) (fuel := 4000) hen ei_235 e2_fz e2_fz (by decide) co_d133 fun M d _ hC hcall p e R s m args below meth c Q D cA A ads r0 ha hl0 => ?_
  have L_0 : e2_gdM M p l e R s m args below meth c Q D cA A ads r0 2 al_d133_0 [] E_d133_0 h_d133_0 := by
    refine e2_indL (u := 4) (j := 1) (lo := 2147483648) (hi := 2147483668) (b := 4) (dd := 0) hl0 (by decide) rfl rfl (Or.inr ⟨rfl, rfl⟩) rfl ci_d133_0 cj_d133_0 ?_
    intro r_0 k_0 hk_0 hp_0 hs_0 hn_0
    have hl_0 : r_0.length ≤ 5 := hs_0.len rfl
    have ha_0 := ha.ext hp_0
    exact e2_fromM hen ha_0 hcall (e2_cutA_ok (e2_fa (fun al st E h hc => hn_0 al st E h hc) e2_fz)) (hC []) (X := e2x_235) ex2_235 2 ck_d133_0
  have EN_0 := e2_entL (u := 4) (j := 1) (lo := 2147483648) (hi := 2147483668) hl0 rfl rfl rfl ci_d133_0 cj_d133_0 L_0
  exact e2_from hen ha hcall (e2_cutA_ok (e2_fa (fun al st E h hc => EN_0 al st E h hc) e2_fz)) (hC []) (X := e2x_235) ex2_235 0 ck_d133_e
/-! d134 X10_cellsOf -/
def as_d134 : List ev_V := [(2, 83, 0), (11, 2147483648, 2147483655)]
def E_d134 : e2_E := [(2147483648, 2147583648, 0, 0), (2147483648, 2147483656, 1, 0), (2147483648, 2147483688, 2, 0), (2147483648, 2147483688, 3, 0)]
noncomputable def f_d134 : ev_H := (dn1525 : e2_Q8)
noncomputable def q_d134_0 : ev_H := (dn1525 : e2_Q8)
noncomputable def rs_d134 : e2_Rs := [((11, 0, 4294967295), q_d134_0)]
noncomputable def s_d134 : e2_Sm := (238, as_d134, E_d134, f_d134, rs_d134)
noncomputable def S_d134 : List e2_Sm := [s_d124]
noncomputable def I_d134 : List e2_In := []
set_option maxRecDepth 1000000 in
theorem co_d134 : e2_okSB E_d134.length as_d134 f_d134 rs_d134 = true := by decide +kernel
def al_d134_0 : List ev_V := [(2, 83, 0), (11, 2147483648, 2147483655), (11, 0, 4294967295), (1, 4, 4294967296)]
def E_d134_0 : e2_E := [(2147483648, 2147583648, 0, 0), (2147483648, 2147483656, 1, 0), (2147483648, 2147483688, 2, 0), (2147483648, 2147483688, 3, 0), (2147483648, 2147483668, 4, 0)]
noncomputable def h_d134_0 : ev_H := (dn1525 : e2_Q8)
noncomputable def cl_d134_e : List (Nat × e2_S) := [(9, e2_cutL (al_d134_0.set 3 (11, 2147483648, 2147483668)) 4 (E_d134_0.take 4) h_d134_0)]
set_option maxRecDepth 1000000 in
theorem ck_d134_e : e2_run (e2_cal S_d134 I_d134 4000 0) (e2_fin rs_d134) e2x_238 (e2_bpL cl_d134_e) (e2_cutA cl_d134_e) 4000 (e2_seek e2x_238 0) (e2_al 4 as_d134) [] E_d134 f_d134 = true := by decide +kernel
noncomputable def cl_d134_0 : List (Nat × e2_S) := [(9, e2_cutL (al_d134_0.set 3 (13, 12, 2147483668)) 4 (E_d134_0.take 4) h_d134_0)]
set_option maxRecDepth 1000000 in
theorem ck_d134_0 : e2_runM (e2_cal S_d134 I_d134 4000 0) (e2_fin rs_d134) e2x_238 (e2_bpL cl_d134_0) (e2_cutA cl_d134_0) 4000 (e2_seek e2x_238 9) al_d134_0 [] E_d134_0 h_d134_0 = true := by decide +kernel
set_option maxRecDepth 1000000 in
theorem ci_d134_0 : e2_idl 4 (al_d134_0.set 3 (9, 0, 0)) = true := by decide +kernel
set_option maxRecDepth 1000000 in
theorem cj_d134_0 : e2_idh 4 8 h_d134_0 = true := by decide +kernel
theorem cs_d134 (hen : en_ok) (l : Launch) : e2_smOk l 7 s_d134 := by
  refine e2_conG (H := 6) (n := 0) (C := evd_238) (S := S_d134) (I := I_d134) (fuel := 4000) hen ei_238 (e2_fa (cs_d124 hen l) e2_fz) e2_fz (by decide) co_d134 fun M d _ hC hcall p e R s m args below meth c Q D cA A ads r0 ha hl0 => ?_
  have L_0 : e2_gdM M p l e R s m args below meth c Q D cA A ads r0 9 al_d134_0 [] E_d134_0 h_d134_0 := by
    refine e2_indL (u := 4) (j := 3) (lo := 2147483648) (hi := 2147483668) (b := 4) (dd := 0) hl0 (by decide) rfl rfl (Or.inr ⟨rfl, rfl⟩) rfl ci_d134_0 cj_d134_0 ?_
    intro r_0 k_0 hk_0 hp_0 hs_0 hn_0
    have hl_0 : r_0.length ≤ 5 := hs_0.len rfl
    have ha_0 := ha.ext hp_0
    exact e2_fromM hen ha_0 hcall (e2_cutA_ok (e2_fa (fun al st E h hc => hn_0 al st E h hc) e2_fz)) (hC []) (X := e2x_238) ex2_238 9 ck_d134_0
  have EN_0 := e2_entL (u := 4) (j := 3) (lo := 2147483648) (hi := 2147483668) hl0 rfl rfl rfl ci_d134_0 cj_d134_0 L_0
  exact e2_from hen ha hcall (e2_cutA_ok (e2_fa (fun al st E h hc => EN_0 al st E h hc) e2_fz)) (hC []) (X := e2x_238) ex2_238 0 ck_d134_e
/-! d135 X10_glyph -/
def as_d135 : List ev_V := [(2, 83, 0), (11, 0, 4294967295), (11, 0, 4294967295)]
def E_d135 : e2_E := [(2147483648, 2147583648, 0, 0), (2147483648, 2147483656, 1, 0), (2147483648, 2147483688, 2, 0), (2147483648, 2147483688, 3, 0)]
def dn1578 : e2_Q4 := (dn1570, dn448)
def dn1579 : e2_Q5 := (dn1578, dn356)
def dn1580 : e2_Q6 := (dn1579, dn251)
def dn1581 : e2_Q7 := (dn1019, dn1580)
def dn1582 : e2_Q8 := (dn1521, dn1581)
noncomputable def f_d135 : ev_H := (dn1582 : e2_Q8)
noncomputable def q_d135_0 : ev_H := (dn1582 : e2_Q8)
noncomputable def rs_d135 : e2_Rs := [((11, 0, 4294967295), q_d135_0)]
noncomputable def s_d135 : e2_Sm := (237, as_d135, E_d135, f_d135, rs_d135)
noncomputable def S_d135 : List e2_Sm := [s_d134]
noncomputable def I_d135 : List e2_In := [(212, 3, e2x_212), (217, 1, e2x_217), (219, 2, e2x_219)]
set_option maxRecDepth 1000000 in
theorem ck_d135 : e2_run (e2_cal S_d135 I_d135 4000 2) (e2_fin rs_d135) e2x_237 (fun _ => false) (fun _ _ _ _ _ => false) 4000 (e2_seek e2x_237 0) (e2_al 4 as_d135) [] E_d135 f_d135 = true := by decide +kernel
set_option maxRecDepth 1000000 in
theorem co_d135 : e2_okSB E_d135.length as_d135 f_d135 rs_d135 = true := by decide +kernel
theorem cs_d135 (hen : en_ok) (l : Launch) : e2_smOk l 10 s_d135 := e2_con0 (H := 7) (n := 2) (C := evd_237) (S := S_d135) (I := I_d135) (fuel := 4000) [] hen ei_237 (e2_fa (cs_d134 hen l) e2_fz) (e2_fa ein_212 (e2_fa ein_217 (e2_fa ein_219 e2_fz))) (by decide) co_d135 ex2_237 ck_d135
/-! d136 X10_cellsOf -/
def as_d136 : List ev_V := [(2, 83, 0), (11, 2147483648, 2147483655)]
def E_d136 : e2_E := [(2147483648, 2147583648, 0, 0), (2147483648, 2147483656, 1, 0), (2147483648, 2147483688, 2, 0), (2147483648, 2147483688, 3, 0)]
noncomputable def f_d136 : ev_H := (dn1542 : e2_Q8)
noncomputable def q_d136_0 : ev_H := (dn1542 : e2_Q8)
noncomputable def rs_d136 : e2_Rs := [((11, 0, 4294967295), q_d136_0)]
noncomputable def s_d136 : e2_Sm := (238, as_d136, E_d136, f_d136, rs_d136)
noncomputable def S_d136 : List e2_Sm := [s_d126]
noncomputable def I_d136 : List e2_In := []
set_option maxRecDepth 1000000 in
theorem co_d136 : e2_okSB E_d136.length as_d136 f_d136 rs_d136 = true := by decide +kernel
def al_d136_0 : List ev_V := [(2, 83, 0), (11, 2147483648, 2147483655), (11, 0, 4294967295), (1, 4, 4294967296)]
def E_d136_0 : e2_E := [(2147483648, 2147583648, 0, 0), (2147483648, 2147483656, 1, 0), (2147483648, 2147483688, 2, 0), (2147483648, 2147483688, 3, 0), (2147483648, 2147483668, 4, 0)]
noncomputable def h_d136_0 : ev_H := (dn1542 : e2_Q8)
noncomputable def cl_d136_e : List (Nat × e2_S) := [(9, e2_cutL (al_d136_0.set 3 (11, 2147483648, 2147483668)) 4 (E_d136_0.take 4) h_d136_0)]
set_option maxRecDepth 1000000 in
theorem ck_d136_e : e2_run (e2_cal S_d136 I_d136 4000 0) (e2_fin rs_d136) e2x_238 (e2_bpL cl_d136_e) (e2_cutA cl_d136_e) 4000 (e2_seek e2x_238 0) (e2_al 4 as_d136) [] E_d136 f_d136 = true := by decide +kernel
noncomputable def cl_d136_0 : List (Nat × e2_S) := [(9, e2_cutL (al_d136_0.set 3 (13, 12, 2147483668)) 4 (E_d136_0.take 4) h_d136_0)]
set_option maxRecDepth 1000000 in
theorem ck_d136_0 : e2_runM (e2_cal S_d136 I_d136 4000 0) (e2_fin rs_d136) e2x_238 (e2_bpL cl_d136_0) (e2_cutA cl_d136_0) 4000 (e2_seek e2x_238 9) al_d136_0 [] E_d136_0 h_d136_0 = true := by decide +kernel
set_option maxRecDepth 1000000 in
theorem ci_d136_0 : e2_idl 4 (al_d136_0.set 3 (9, 0, 0)) = true := by decide +kernel
set_option maxRecDepth 1000000 in
theorem cj_d136_0 : e2_idh 4 8 h_d136_0 = true := by decide +kernel
theorem cs_d136 (hen : en_ok) (l : Launch) (hh : e2_hand_d l) : e2_smOk l 64 s_d136 := by
  refine e2_conG (H := 63) (n := 0) (C := evd_238) (S := S_d136) (I := I_d136) (fuel := 4000) hen ei_238 (e2_fa (cs_d126 hen l hh) e2_fz) e2_fz (by decide) co_d136 fun M d _ hC hcall p e R s m args below meth c Q D cA A ads r0 ha hl0 => ?_
  have L_0 : e2_gdM M p l e R s m args below meth c Q D cA A ads r0 9 al_d136_0 [] E_d136_0 h_d136_0 := by
    refine e2_indL (u := 4) (j := 3) (lo := 2147483648) (hi := 2147483668) (b := 4) (dd := 0) hl0 (by decide) rfl rfl (Or.inr ⟨rfl, rfl⟩) rfl ci_d136_0 cj_d136_0 ?_
    intro r_0 k_0 hk_0 hp_0 hs_0 hn_0
    have hl_0 : r_0.length ≤ 5 := hs_0.len rfl
    have ha_0 := ha.ext hp_0
    exact e2_fromM hen ha_0 hcall (e2_cutA_ok (e2_fa (fun al st E h hc => hn_0 al st E h hc) e2_fz)) (hC []) (X := e2x_238) ex2_238 9 ck_d136_0
  have EN_0 := e2_entL (u := 4) (j := 3) (lo := 2147483648) (hi := 2147483668) hl0 rfl rfl rfl ci_d136_0 cj_d136_0 L_0
  exact e2_from hen ha hcall (e2_cutA_ok (e2_fa (fun al st E h hc => EN_0 al st E h hc) e2_fz)) (hC []) (X := e2x_238) ex2_238 0 ck_d136_e
/-! d137 X10_glyph -/
def as_d137 : List ev_V := [(2, 83, 0), (11, 0, 4294967295), (11, 0, 4294967295)]
def E_d137 : e2_E := [(2147483648, 2147583648, 0, 0), (2147483648, 2147483656, 1, 0), (2147483648, 2147483688, 2, 0), (2147483648, 2147483688, 3, 0)]
def dn1583 : e2_Q5 := (dn1578, dn1538)
def dn1584 : e2_Q6 := (dn1583, dn312)
def dn1585 : e2_Q7 := (dn1537, dn1584)
def dn1586 : e2_Q8 := (dn1534, dn1585)
noncomputable def f_d137 : ev_H := (dn1586 : e2_Q8)
noncomputable def q_d137_0 : ev_H := (dn1586 : e2_Q8)
noncomputable def rs_d137 : e2_Rs := [((11, 0, 4294967295), q_d137_0)]
noncomputable def s_d137 : e2_Sm := (237, as_d137, E_d137, f_d137, rs_d137)
noncomputable def S_d137 : List e2_Sm := [s_d136]
noncomputable def I_d137 : List e2_In := [(212, 3, e2x_212), (217, 1, e2x_217), (219, 2, e2x_219)]
set_option maxRecDepth 1000000 in
theorem ck_d137 : e2_run (e2_cal S_d137 I_d137 4000 2) (e2_fin rs_d137) e2x_237 (fun _ => false) (fun _ _ _ _ _ => false) 4000 (e2_seek e2x_237 0) (e2_al 4 as_d137) [] E_d137 f_d137 = true := by decide +kernel
set_option maxRecDepth 1000000 in
theorem co_d137 : e2_okSB E_d137.length as_d137 f_d137 rs_d137 = true := by decide +kernel
theorem cs_d137 (hen : en_ok) (l : Launch) (hh : e2_hand_d l) : e2_smOk l 67 s_d137 := e2_con0 (H := 64) (n := 2) (C := evd_237) (S := S_d137) (I := I_d137) (fuel := 4000) [] hen ei_237 (e2_fa (cs_d136 hen l hh) e2_fz) (e2_fa ein_212 (e2_fa ein_217 (e2_fa ein_219 e2_fz))) (by decide) co_d137 ex2_237 ck_d137
/-! d138 X10_cellsOf -/
def as_d138 : List ev_V := [(2, 83, 0), (11, 2147483648, 2147483655)]
def E_d138 : e2_E := [(2147483648, 2147583648, 0, 0), (2147483648, 2147483656, 1, 0), (2147483648, 2147483688, 2, 0), (2147483648, 2147483688, 3, 0)]
noncomputable def f_d138 : ev_H := (dn1550 : e2_Q8)
noncomputable def q_d138_0 : ev_H := (dn1550 : e2_Q8)
noncomputable def rs_d138 : e2_Rs := [((11, 0, 4294967295), q_d138_0)]
noncomputable def s_d138 : e2_Sm := (238, as_d138, E_d138, f_d138, rs_d138)
noncomputable def S_d138 : List e2_Sm := [s_d128]
noncomputable def I_d138 : List e2_In := []
set_option maxRecDepth 1000000 in
theorem co_d138 : e2_okSB E_d138.length as_d138 f_d138 rs_d138 = true := by decide +kernel
def al_d138_0 : List ev_V := [(2, 83, 0), (11, 2147483648, 2147483655), (11, 0, 4294967295), (1, 4, 4294967296)]
def E_d138_0 : e2_E := [(2147483648, 2147583648, 0, 0), (2147483648, 2147483656, 1, 0), (2147483648, 2147483688, 2, 0), (2147483648, 2147483688, 3, 0), (2147483648, 2147483668, 4, 0)]
noncomputable def h_d138_0 : ev_H := (dn1550 : e2_Q8)
noncomputable def cl_d138_e : List (Nat × e2_S) := [(9, e2_cutL (al_d138_0.set 3 (11, 2147483648, 2147483668)) 4 (E_d138_0.take 4) h_d138_0)]
set_option maxRecDepth 1000000 in
theorem ck_d138_e : e2_run (e2_cal S_d138 I_d138 4000 0) (e2_fin rs_d138) e2x_238 (e2_bpL cl_d138_e) (e2_cutA cl_d138_e) 4000 (e2_seek e2x_238 0) (e2_al 4 as_d138) [] E_d138 f_d138 = true := by decide +kernel
noncomputable def cl_d138_0 : List (Nat × e2_S) := [(9, e2_cutL (al_d138_0.set 3 (13, 12, 2147483668)) 4 (E_d138_0.take 4) h_d138_0)]
set_option maxRecDepth 1000000 in
theorem ck_d138_0 : e2_runM (e2_cal S_d138 I_d138 4000 0) (e2_fin rs_d138) e2x_238 (e2_bpL cl_d138_0) (e2_cutA cl_d138_0) 4000 (e2_seek e2x_238 9) al_d138_0 [] E_d138_0 h_d138_0 = true := by decide +kernel
set_option maxRecDepth 1000000 in
theorem ci_d138_0 : e2_idl 4 (al_d138_0.set 3 (9, 0, 0)) = true := by decide +kernel
set_option maxRecDepth 1000000 in
theorem cj_d138_0 : e2_idh 4 8 h_d138_0 = true := by decide +kernel
theorem cs_d138 (hen : en_ok) (l : Launch) : e2_smOk l 7 s_d138 := by
  refine e2_conG (H := 6) (n := 0) (C := evd_238) (S := S_d138) (I := I_d138) (fuel := 4000) hen ei_238 (e2_fa (cs_d128 hen l) e2_fz) e2_fz (by decide) co_d138 fun M d _ hC hcall p e R s m args below meth c Q D cA A ads r0 ha hl0 => ?_
  have L_0 : e2_gdM M p l e R s m args below meth c Q D cA A ads r0 9 al_d138_0 [] E_d138_0 h_d138_0 := by
    refine e2_indL (u := 4) (j := 3) (lo := 2147483648) (hi := 2147483668) (b := 4) (dd := 0) hl0 (by decide) rfl rfl (Or.inr ⟨rfl, rfl⟩) rfl ci_d138_0 cj_d138_0 ?_
    intro r_0 k_0 hk_0 hp_0 hs_0 hn_0
    have hl_0 : r_0.length ≤ 5 := hs_0.len rfl
    have ha_0 := ha.ext hp_0
    exact e2_fromM hen ha_0 hcall (e2_cutA_ok (e2_fa (fun al st E h hc => hn_0 al st E h hc) e2_fz)) (hC []) (X := e2x_238) ex2_238 9 ck_d138_0
  have EN_0 := e2_entL (u := 4) (j := 3) (lo := 2147483648) (hi := 2147483668) hl0 rfl rfl rfl ci_d138_0 cj_d138_0 L_0
  exact e2_from hen ha hcall (e2_cutA_ok (e2_fa (fun al st E h hc => EN_0 al st E h hc) e2_fz)) (hC []) (X := e2x_238) ex2_238 0 ck_d138_e
/-! d139 X10_glyph -/
def as_d139 : List ev_V := [(2, 83, 0), (11, 0, 4294967295), (11, 0, 4294967295)]
def E_d139 : e2_E := [(2147483648, 2147583648, 0, 0), (2147483648, 2147483656, 1, 0), (2147483648, 2147483688, 2, 0), (2147483648, 2147483688, 3, 0)]
def dn1587 : e2_Q8 := (dn1549, dn1581)
noncomputable def f_d139 : ev_H := (dn1587 : e2_Q8)
noncomputable def q_d139_0 : ev_H := (dn1587 : e2_Q8)
noncomputable def rs_d139 : e2_Rs := [((11, 0, 4294967295), q_d139_0)]
noncomputable def s_d139 : e2_Sm := (237, as_d139, E_d139, f_d139, rs_d139)
noncomputable def S_d139 : List e2_Sm := [s_d138]
noncomputable def I_d139 : List e2_In := [(212, 3, e2x_212), (217, 1, e2x_217), (219, 2, e2x_219)]
set_option maxRecDepth 1000000 in
theorem ck_d139 : e2_run (e2_cal S_d139 I_d139 4000 2) (e2_fin rs_d139) e2x_237 (fun _ => false) (fun _ _ _ _ _ => false) 4000 (e2_seek e2x_237 0) (e2_al 4 as_d139) [] E_d139 f_d139 = true := by decide +kernel
set_option maxRecDepth 1000000 in
theorem co_d139 : e2_okSB E_d139.length as_d139 f_d139 rs_d139 = true := by decide +kernel
theorem cs_d139 (hen : en_ok) (l : Launch) : e2_smOk l 10 s_d139 := e2_con0 (H := 7) (n := 2) (C := evd_237) (S := S_d139) (I := I_d139) (fuel := 4000) [] hen ei_237 (e2_fa (cs_d138 hen l) e2_fz) (e2_fa ein_212 (e2_fa ein_217 (e2_fa ein_219 e2_fz))) (by decide) co_d139 ex2_237 ck_d139
/-! d140 X10_cellsOf -/
def as_d140 : List ev_V := [(2, 83, 0), (11, 2147483648, 2147483655)]
def E_d140 : e2_E := [(2147483648, 2147583648, 0, 0), (2147483648, 2147483656, 1, 0), (2147483648, 2147483688, 2, 0), (2147483648, 2147483688, 3, 0)]
noncomputable def f_d140 : ev_H := (dn1559 : e2_Q8)
noncomputable def q_d140_0 : ev_H := (dn1559 : e2_Q8)
noncomputable def rs_d140 : e2_Rs := [((11, 0, 4294967295), q_d140_0)]
noncomputable def s_d140 : e2_Sm := (238, as_d140, E_d140, f_d140, rs_d140)
noncomputable def S_d140 : List e2_Sm := [s_d130]
noncomputable def I_d140 : List e2_In := []
set_option maxRecDepth 1000000 in
theorem co_d140 : e2_okSB E_d140.length as_d140 f_d140 rs_d140 = true := by decide +kernel
def al_d140_0 : List ev_V := [(2, 83, 0), (11, 2147483648, 2147483655), (11, 0, 4294967295), (1, 4, 4294967296)]
def E_d140_0 : e2_E := [(2147483648, 2147583648, 0, 0), (2147483648, 2147483656, 1, 0), (2147483648, 2147483688, 2, 0), (2147483648, 2147483688, 3, 0), (2147483648, 2147483668, 4, 0)]
noncomputable def h_d140_0 : ev_H := (dn1559 : e2_Q8)
noncomputable def cl_d140_e : List (Nat × e2_S) := [(9, e2_cutL (al_d140_0.set 3 (11, 2147483648, 2147483668)) 4 (E_d140_0.take 4) h_d140_0)]
set_option maxRecDepth 1000000 in
theorem ck_d140_e : e2_run (e2_cal S_d140 I_d140 4000 0) (e2_fin rs_d140) e2x_238 (e2_bpL cl_d140_e) (e2_cutA cl_d140_e) 4000 (e2_seek e2x_238 0) (e2_al 4 as_d140) [] E_d140 f_d140 = true := by decide +kernel
noncomputable def cl_d140_0 : List (Nat × e2_S) := [(9, e2_cutL (al_d140_0.set 3 (13, 12, 2147483668)) 4 (E_d140_0.take 4) h_d140_0)]
set_option maxRecDepth 1000000 in
theorem ck_d140_0 : e2_runM (e2_cal S_d140 I_d140 4000 0) (e2_fin rs_d140) e2x_238 (e2_bpL cl_d140_0) (e2_cutA cl_d140_0) 4000 (e2_seek e2x_238 9) al_d140_0 [] E_d140_0 h_d140_0 = true := by decide +kernel
set_option maxRecDepth 1000000 in
theorem ci_d140_0 : e2_idl 4 (al_d140_0.set 3 (9, 0, 0)) = true := by decide +kernel
set_option maxRecDepth 1000000 in
theorem cj_d140_0 : e2_idh 4 8 h_d140_0 = true := by decide +kernel
theorem cs_d140 (hen : en_ok) (l : Launch) (hh : e2_hand_d l) : e2_smOk l 64 s_d140 := by
  refine e2_conG (H := 63) (n := 0) (C := evd_238) (S := S_d140) (I := I_d140) (fuel := 4000) hen ei_238 (e2_fa (cs_d130 hen l hh) e2_fz) e2_fz (by decide) co_d140 fun M d _ hC hcall p e R s m args below meth c Q D cA A ads r0 ha hl0 => ?_
  have L_0 : e2_gdM M p l e R s m args below meth c Q D cA A ads r0 9 al_d140_0 [] E_d140_0 h_d140_0 := by
    refine e2_indL (u := 4) (j := 3) (lo := 2147483648) (hi := 2147483668) (b := 4) (dd := 0) hl0 (by decide) rfl rfl (Or.inr ⟨rfl, rfl⟩) rfl ci_d140_0 cj_d140_0 ?_
    intro r_0 k_0 hk_0 hp_0 hs_0 hn_0
    have hl_0 : r_0.length ≤ 5 := hs_0.len rfl
    have ha_0 := ha.ext hp_0
    exact e2_fromM hen ha_0 hcall (e2_cutA_ok (e2_fa (fun al st E h hc => hn_0 al st E h hc) e2_fz)) (hC []) (X := e2x_238) ex2_238 9 ck_d140_0
  have EN_0 := e2_entL (u := 4) (j := 3) (lo := 2147483648) (hi := 2147483668) hl0 rfl rfl rfl ci_d140_0 cj_d140_0 L_0
  exact e2_from hen ha hcall (e2_cutA_ok (e2_fa (fun al st E h hc => EN_0 al st E h hc) e2_fz)) (hC []) (X := e2x_238) ex2_238 0 ck_d140_e
/-! d141 X10_glyph -/
def as_d141 : List ev_V := [(2, 83, 0), (11, 0, 4294967295), (11, 0, 4294967295)]
def E_d141 : e2_E := [(2147483648, 2147583648, 0, 0), (2147483648, 2147483656, 1, 0), (2147483648, 2147483688, 2, 0), (2147483648, 2147483688, 3, 0)]
def dn1588 : e2_Q5 := (dn1578, dn1555)
def dn1589 : e2_Q6 := (dn1588, dn312)
def dn1590 : e2_Q7 := (dn1537, dn1589)
def dn1591 : e2_Q8 := (dn1554, dn1590)
noncomputable def f_d141 : ev_H := (dn1591 : e2_Q8)
noncomputable def q_d141_0 : ev_H := (dn1591 : e2_Q8)
noncomputable def rs_d141 : e2_Rs := [((11, 0, 4294967295), q_d141_0)]
noncomputable def s_d141 : e2_Sm := (237, as_d141, E_d141, f_d141, rs_d141)
noncomputable def S_d141 : List e2_Sm := [s_d140]
noncomputable def I_d141 : List e2_In := [(212, 3, e2x_212), (217, 1, e2x_217), (219, 2, e2x_219)]
set_option maxRecDepth 1000000 in
theorem ck_d141 : e2_run (e2_cal S_d141 I_d141 4000 2) (e2_fin rs_d141) e2x_237 (fun _ => false) (fun _ _ _ _ _ => false) 4000 (e2_seek e2x_237 0) (e2_al 4 as_d141) [] E_d141 f_d141 = true := by decide +kernel
set_option maxRecDepth 1000000 in
theorem co_d141 : e2_okSB E_d141.length as_d141 f_d141 rs_d141 = true := by decide +kernel
theorem cs_d141 (hen : en_ok) (l : Launch) (hh : e2_hand_d l) : e2_smOk l 67 s_d141 := e2_con0 (H := 64) (n := 2) (C := evd_237) (S := S_d141) (I := I_d141) (fuel := 4000) [] hen ei_237 (e2_fa (cs_d140 hen l hh) e2_fz) (e2_fa ein_212 (e2_fa ein_217 (e2_fa ein_219 e2_fz))) (by decide) co_d141 ex2_237 ck_d141
/-! d142 X10_signAt -/
def as_d142 : List ev_V := [(2, 83, 0), (11, 2147483648, 2147483667)]
def E_d142 : e2_E := [(2147483648, 2147583648, 0, 0), (2147483648, 2147483656, 1, 0), (2147483648, 2147483688, 2, 0), (2147483648, 2147483688, 3, 0)]
noncomputable def f_d142 : ev_H := (dn1525 : e2_Q8)
noncomputable def q_d142_0 : ev_H := (dn1525 : e2_Q8)
noncomputable def rs_d142 : e2_Rs := [((11, 2147483647, 2147483655), q_d142_0)]
noncomputable def s_d142 : e2_Sm := (239, as_d142, E_d142, f_d142, rs_d142)
noncomputable def S_d142 : List e2_Sm := [s_d124]
noncomputable def I_d142 : List e2_In := []
set_option maxRecDepth 1000000 in
theorem co_d142 : e2_okSB E_d142.length as_d142 f_d142 rs_d142 = true := by decide +kernel
def al_d142_0 : List ev_V := [(2, 83, 0), (11, 2147483648, 2147483667), (1, 4, 4294967296)]
def E_d142_0 : e2_E := [(2147483648, 2147583648, 0, 0), (2147483648, 2147483656, 1, 0), (2147483648, 2147483688, 2, 0), (2147483648, 2147483688, 3, 0), (2147483648, 2147483668, 4, 0)]
noncomputable def h_d142_0 : ev_H := (dn1525 : e2_Q8)
noncomputable def cl_d142_e : List (Nat × e2_S) := [(7, e2_cutL (al_d142_0.set 2 (11, 2147483648, 2147483668)) 4 (E_d142_0.take 4) h_d142_0)]
set_option maxRecDepth 1000000 in
theorem ck_d142_e : e2_run (e2_cal S_d142 I_d142 4000 0) (e2_fin rs_d142) e2x_239 (e2_bpL cl_d142_e) (e2_cutA cl_d142_e) 4000 (e2_seek e2x_239 0) (e2_al 3 as_d142) [] E_d142 f_d142 = true := by decide +kernel
noncomputable def cl_d142_0 : List (Nat × e2_S) := [(7, e2_cutL (al_d142_0.set 2 (13, 12, 2147483668)) 4 (E_d142_0.take 4) h_d142_0)]
set_option maxRecDepth 1000000 in
theorem ck_d142_0 : e2_runM (e2_cal S_d142 I_d142 4000 0) (e2_fin rs_d142) e2x_239 (e2_bpL cl_d142_0) (e2_cutA cl_d142_0) 4000 (e2_seek e2x_239 7) al_d142_0 [] E_d142_0 h_d142_0 = true := by decide +kernel
set_option maxRecDepth 1000000 in
theorem ci_d142_0 : e2_idl 4 (al_d142_0.set 2 (9, 0, 0)) = true := by decide +kernel
set_option maxRecDepth 1000000 in
theorem cj_d142_0 : e2_idh 4 8 h_d142_0 = true := by decide +kernel
theorem cs_d142 (hen : en_ok) (l : Launch) : e2_smOk l 7 s_d142 := by
  refine e2_conG (H := 6) (n := 0) (C := evd_239) (S := S_d142) (I := I_d142) (fuel := 4000) hen ei_239 (e2_fa (cs_d124 hen l) e2_fz) e2_fz (by decide) co_d142 fun M d _ hC hcall p e R s m args below meth c Q D cA A ads r0 ha hl0 => ?_
  have L_0 : e2_gdM M p l e R s m args below meth c Q D cA A ads r0 7 al_d142_0 [] E_d142_0 h_d142_0 := by
    refine e2_indL (u := 4) (j := 2) (lo := 2147483648) (hi := 2147483668) (b := 4) (dd := 0) hl0 (by decide) rfl rfl (Or.inr ⟨rfl, rfl⟩) rfl ci_d142_0 cj_d142_0 ?_
    intro r_0 k_0 hk_0 hp_0 hs_0 hn_0
    have hl_0 : r_0.length ≤ 5 := hs_0.len rfl
    have ha_0 := ha.ext hp_0
    exact e2_fromM hen ha_0 hcall (e2_cutA_ok (e2_fa (fun al st E h hc => hn_0 al st E h hc) e2_fz)) (hC []) (X := e2x_239) ex2_239 7 ck_d142_0
  have EN_0 := e2_entL (u := 4) (j := 2) (lo := 2147483648) (hi := 2147483668) hl0 rfl rfl rfl ci_d142_0 cj_d142_0 L_0
  exact e2_from hen ha hcall (e2_cutA_ok (e2_fa (fun al st E h hc => EN_0 al st E h hc) e2_fz)) (hC []) (X := e2x_239) ex2_239 0 ck_d142_e
/-! d143 X10_signAt -/
def as_d143 : List ev_V := [(2, 83, 0), (11, 2147483648, 2147483667)]
def E_d143 : e2_E := [(2147483648, 2147583648, 0, 0), (2147483648, 2147483656, 1, 0), (2147483648, 2147483688, 2, 0), (2147483648, 2147483688, 3, 0)]
noncomputable def f_d143 : ev_H := (dn1542 : e2_Q8)
noncomputable def q_d143_0 : ev_H := (dn1542 : e2_Q8)
noncomputable def rs_d143 : e2_Rs := [((11, 2147483647, 2147483655), q_d143_0)]
noncomputable def s_d143 : e2_Sm := (239, as_d143, E_d143, f_d143, rs_d143)
noncomputable def S_d143 : List e2_Sm := [s_d126]
noncomputable def I_d143 : List e2_In := []
set_option maxRecDepth 1000000 in
theorem co_d143 : e2_okSB E_d143.length as_d143 f_d143 rs_d143 = true := by decide +kernel
def al_d143_0 : List ev_V := [(2, 83, 0), (11, 2147483648, 2147483667), (1, 4, 4294967296)]
def E_d143_0 : e2_E := [(2147483648, 2147583648, 0, 0), (2147483648, 2147483656, 1, 0), (2147483648, 2147483688, 2, 0), (2147483648, 2147483688, 3, 0), (2147483648, 2147483668, 4, 0)]
noncomputable def h_d143_0 : ev_H := (dn1542 : e2_Q8)
noncomputable def cl_d143_e : List (Nat × e2_S) := [(7, e2_cutL (al_d143_0.set 2 (11, 2147483648, 2147483668)) 4 (E_d143_0.take 4) h_d143_0)]
set_option maxRecDepth 1000000 in
theorem ck_d143_e : e2_run (e2_cal S_d143 I_d143 4000 0) (e2_fin rs_d143) e2x_239 (e2_bpL cl_d143_e) (e2_cutA cl_d143_e) 4000 (e2_seek e2x_239 0) (e2_al 3 as_d143) [] E_d143 f_d143 = true := by decide +kernel
noncomputable def cl_d143_0 : List (Nat × e2_S) := [(7, e2_cutL (al_d143_0.set 2 (13, 12, 2147483668)) 4 (E_d143_0.take 4) h_d143_0)]
set_option maxRecDepth 1000000 in
theorem ck_d143_0 : e2_runM (e2_cal S_d143 I_d143 4000 0) (e2_fin rs_d143) e2x_239 (e2_bpL cl_d143_0) (e2_cutA cl_d143_0) 4000 (e2_seek e2x_239 7) al_d143_0 [] E_d143_0 h_d143_0 = true := by decide +kernel
set_option maxRecDepth 1000000 in
theorem ci_d143_0 : e2_idl 4 (al_d143_0.set 2 (9, 0, 0)) = true := by decide +kernel
set_option maxRecDepth 1000000 in
theorem cj_d143_0 : e2_idh 4 8 h_d143_0 = true := by decide +kernel
theorem cs_d143 (hen : en_ok) (l : Launch) (hh : e2_hand_d l) : e2_smOk l 64 s_d143 := by
  refine e2_conG (H := 63) (n := 0) (C := evd_239) (S := S_d143) (I := I_d143) (fuel := 4000) hen ei_239 (e2_fa (cs_d126 hen l hh) e2_fz) e2_fz (by decide) co_d143 fun M d _ hC hcall p e R s m args below meth c Q D cA A ads r0 ha hl0 => ?_
  have L_0 : e2_gdM M p l e R s m args below meth c Q D cA A ads r0 7 al_d143_0 [] E_d143_0 h_d143_0 := by
    refine e2_indL (u := 4) (j := 2) (lo := 2147483648) (hi := 2147483668) (b := 4) (dd := 0) hl0 (by decide) rfl rfl (Or.inr ⟨rfl, rfl⟩) rfl ci_d143_0 cj_d143_0 ?_
    intro r_0 k_0 hk_0 hp_0 hs_0 hn_0
    have hl_0 : r_0.length ≤ 5 := hs_0.len rfl
    have ha_0 := ha.ext hp_0
    exact e2_fromM hen ha_0 hcall (e2_cutA_ok (e2_fa (fun al st E h hc => hn_0 al st E h hc) e2_fz)) (hC []) (X := e2x_239) ex2_239 7 ck_d143_0
  have EN_0 := e2_entL (u := 4) (j := 2) (lo := 2147483648) (hi := 2147483668) hl0 rfl rfl rfl ci_d143_0 cj_d143_0 L_0
  exact e2_from hen ha hcall (e2_cutA_ok (e2_fa (fun al st E h hc => EN_0 al st E h hc) e2_fz)) (hC []) (X := e2x_239) ex2_239 0 ck_d143_e
/-! d144 X10_signAt -/
def as_d144 : List ev_V := [(2, 83, 0), (11, 2147483648, 2147483667)]
def E_d144 : e2_E := [(2147483648, 2147583648, 0, 0), (2147483648, 2147483656, 1, 0), (2147483648, 2147483688, 2, 0), (2147483648, 2147483688, 3, 0)]
noncomputable def f_d144 : ev_H := (dn1550 : e2_Q8)
noncomputable def q_d144_0 : ev_H := (dn1550 : e2_Q8)
noncomputable def rs_d144 : e2_Rs := [((11, 2147483647, 2147483655), q_d144_0)]
noncomputable def s_d144 : e2_Sm := (239, as_d144, E_d144, f_d144, rs_d144)
noncomputable def S_d144 : List e2_Sm := [s_d128]
noncomputable def I_d144 : List e2_In := []
set_option maxRecDepth 1000000 in
theorem co_d144 : e2_okSB E_d144.length as_d144 f_d144 rs_d144 = true := by decide +kernel
def al_d144_0 : List ev_V := [(2, 83, 0), (11, 2147483648, 2147483667), (1, 4, 4294967296)]
def E_d144_0 : e2_E := [(2147483648, 2147583648, 0, 0), (2147483648, 2147483656, 1, 0), (2147483648, 2147483688, 2, 0), (2147483648, 2147483688, 3, 0), (2147483648, 2147483668, 4, 0)]
noncomputable def h_d144_0 : ev_H := (dn1550 : e2_Q8)
noncomputable def cl_d144_e : List (Nat × e2_S) := [(7, e2_cutL (al_d144_0.set 2 (11, 2147483648, 2147483668)) 4 (E_d144_0.take 4) h_d144_0)]
set_option maxRecDepth 1000000 in
theorem ck_d144_e : e2_run (e2_cal S_d144 I_d144 4000 0) (e2_fin rs_d144) e2x_239 (e2_bpL cl_d144_e) (e2_cutA cl_d144_e) 4000 (e2_seek e2x_239 0) (e2_al 3 as_d144) [] E_d144 f_d144 = true := by decide +kernel
noncomputable def cl_d144_0 : List (Nat × e2_S) := [(7, e2_cutL (al_d144_0.set 2 (13, 12, 2147483668)) 4 (E_d144_0.take 4) h_d144_0)]
set_option maxRecDepth 1000000 in
theorem ck_d144_0 : e2_runM (e2_cal S_d144 I_d144 4000 0) (e2_fin rs_d144) e2x_239 (e2_bpL cl_d144_0) (e2_cutA cl_d144_0) 4000 (e2_seek e2x_239 7) al_d144_0 [] E_d144_0 h_d144_0 = true := by decide +kernel
set_option maxRecDepth 1000000 in
theorem ci_d144_0 : e2_idl 4 (al_d144_0.set 2 (9, 0, 0)) = true := by decide +kernel
set_option maxRecDepth 1000000 in
theorem cj_d144_0 : e2_idh 4 8 h_d144_0 = true := by decide +kernel
theorem cs_d144 (hen : en_ok) (l : Launch) : e2_smOk l 7 s_d144 := by
  refine e2_conG (H := 6) (n := 0) (C := evd_239) (S := S_d144) (I := I_d144) (fuel := 4000) hen ei_239 (e2_fa (cs_d128 hen l) e2_fz) e2_fz (by decide) co_d144 fun M d _ hC hcall p e R s m args below meth c Q D cA A ads r0 ha hl0 => ?_
  have L_0 : e2_gdM M p l e R s m args below meth c Q D cA A ads r0 7 al_d144_0 [] E_d144_0 h_d144_0 := by
    refine e2_indL (u := 4) (j := 2) (lo := 2147483648) (hi := 2147483668) (b := 4) (dd := 0) hl0 (by decide) rfl rfl (Or.inr ⟨rfl, rfl⟩) rfl ci_d144_0 cj_d144_0 ?_
    intro r_0 k_0 hk_0 hp_0 hs_0 hn_0
    have hl_0 : r_0.length ≤ 5 := hs_0.len rfl
    have ha_0 := ha.ext hp_0
    exact e2_fromM hen ha_0 hcall (e2_cutA_ok (e2_fa (fun al st E h hc => hn_0 al st E h hc) e2_fz)) (hC []) (X := e2x_239) ex2_239 7 ck_d144_0
  have EN_0 := e2_entL (u := 4) (j := 2) (lo := 2147483648) (hi := 2147483668) hl0 rfl rfl rfl ci_d144_0 cj_d144_0 L_0
  exact e2_from hen ha hcall (e2_cutA_ok (e2_fa (fun al st E h hc => EN_0 al st E h hc) e2_fz)) (hC []) (X := e2x_239) ex2_239 0 ck_d144_e
/-! d145 X10_signAt -/
def as_d145 : List ev_V := [(2, 83, 0), (11, 2147483648, 2147483667)]
def E_d145 : e2_E := [(2147483648, 2147583648, 0, 0), (2147483648, 2147483656, 1, 0), (2147483648, 2147483688, 2, 0), (2147483648, 2147483688, 3, 0)]
noncomputable def f_d145 : ev_H := (dn1559 : e2_Q8)
noncomputable def q_d145_0 : ev_H := (dn1559 : e2_Q8)
noncomputable def rs_d145 : e2_Rs := [((11, 2147483647, 2147483655), q_d145_0)]
noncomputable def s_d145 : e2_Sm := (239, as_d145, E_d145, f_d145, rs_d145)
noncomputable def S_d145 : List e2_Sm := [s_d130]
noncomputable def I_d145 : List e2_In := []
set_option maxRecDepth 1000000 in
theorem co_d145 : e2_okSB E_d145.length as_d145 f_d145 rs_d145 = true := by decide +kernel
def al_d145_0 : List ev_V := [(2, 83, 0), (11, 2147483648, 2147483667), (1, 4, 4294967296)]
def E_d145_0 : e2_E := [(2147483648, 2147583648, 0, 0), (2147483648, 2147483656, 1, 0), (2147483648, 2147483688, 2, 0), (2147483648, 2147483688, 3, 0), (2147483648, 2147483668, 4, 0)]
noncomputable def h_d145_0 : ev_H := (dn1559 : e2_Q8)
noncomputable def cl_d145_e : List (Nat × e2_S) := [(7, e2_cutL (al_d145_0.set 2 (11, 2147483648, 2147483668)) 4 (E_d145_0.take 4) h_d145_0)]
set_option maxRecDepth 1000000 in
theorem ck_d145_e : e2_run (e2_cal S_d145 I_d145 4000 0) (e2_fin rs_d145) e2x_239 (e2_bpL cl_d145_e) (e2_cutA cl_d145_e) 4000 (e2_seek e2x_239 0) (e2_al 3 as_d145) [] E_d145 f_d145 = true := by decide +kernel
noncomputable def cl_d145_0 : List (Nat × e2_S) := [(7, e2_cutL (al_d145_0.set 2 (13, 12, 2147483668)) 4 (E_d145_0.take 4) h_d145_0)]
set_option maxRecDepth 1000000 in
theorem ck_d145_0 : e2_runM (e2_cal S_d145 I_d145 4000 0) (e2_fin rs_d145) e2x_239 (e2_bpL cl_d145_0) (e2_cutA cl_d145_0) 4000 (e2_seek e2x_239 7) al_d145_0 [] E_d145_0 h_d145_0 = true := by decide +kernel
set_option maxRecDepth 1000000 in
theorem ci_d145_0 : e2_idl 4 (al_d145_0.set 2 (9, 0, 0)) = true := by decide +kernel
set_option maxRecDepth 1000000 in
theorem cj_d145_0 : e2_idh 4 8 h_d145_0 = true := by decide +kernel
theorem cs_d145 (hen : en_ok) (l : Launch) (hh : e2_hand_d l) : e2_smOk l 64 s_d145 := by
  refine e2_conG (H := 63) (n := 0) (C := evd_239) (S := S_d145) (I := I_d145) (fuel := 4000) hen ei_239 (e2_fa (cs_d130 hen l hh) e2_fz) e2_fz (by decide) co_d145 fun M d _ hC hcall p e R s m args below meth c Q D cA A ads r0 ha hl0 => ?_
  have L_0 : e2_gdM M p l e R s m args below meth c Q D cA A ads r0 7 al_d145_0 [] E_d145_0 h_d145_0 := by
    refine e2_indL (u := 4) (j := 2) (lo := 2147483648) (hi := 2147483668) (b := 4) (dd := 0) hl0 (by decide) rfl rfl (Or.inr ⟨rfl, rfl⟩) rfl ci_d145_0 cj_d145_0 ?_
    intro r_0 k_0 hk_0 hp_0 hs_0 hn_0
    have hl_0 : r_0.length ≤ 5 := hs_0.len rfl
    have ha_0 := ha.ext hp_0
    exact e2_fromM hen ha_0 hcall (e2_cutA_ok (e2_fa (fun al st E h hc => hn_0 al st E h hc) e2_fz)) (hC []) (X := e2x_239) ex2_239 7 ck_d145_0
  have EN_0 := e2_entL (u := 4) (j := 2) (lo := 2147483648) (hi := 2147483668) hl0 rfl rfl rfl ci_d145_0 cj_d145_0 L_0
  exact e2_from hen ha hcall (e2_cutA_ok (e2_fa (fun al st E h hc => EN_0 al st E h hc) e2_fz)) (hC []) (X := e2x_239) ex2_239 0 ck_d145_e
/-! d146 X10_plot -/
def as_d146 : List ev_V := [(2, 83, 0), (11, 0, 4294967295), (11, 0, 4294967295)]
def E_d146 : e2_E := [(2147483648, 2147583648, 0, 0), (2147483648, 2147483656, 1, 0), (2147483648, 2147483688, 2, 0), (2147483648, 2147483688, 3, 0)]
noncomputable def f_d146 : ev_H := (dn1525 : e2_Q8)
noncomputable def q_d146_0 : ev_H := (dn1525 : e2_Q8)
noncomputable def rs_d146 : e2_Rs := [((11, 0, 4294967295), q_d146_0)]
noncomputable def s_d146 : e2_Sm := (240, as_d146, E_d146, f_d146, rs_d146)
noncomputable def S_d146 : List e2_Sm := [s_d142]
noncomputable def I_d146 : List e2_In := [(212, 3, e2x_212), (215, 2, e2x_215), (216, 1, e2x_216), (218, 2, e2x_218)]
set_option maxRecDepth 1000000 in
theorem ck_d146 : e2_run (e2_cal S_d146 I_d146 4000 2) (e2_fin rs_d146) e2x_240 (fun _ => false) (fun _ _ _ _ _ => false) 4000 (e2_seek e2x_240 0) (e2_al 3 as_d146) [] E_d146 f_d146 = true := by decide +kernel
set_option maxRecDepth 1000000 in
theorem co_d146 : e2_okSB E_d146.length as_d146 f_d146 rs_d146 = true := by decide +kernel
theorem cs_d146 (hen : en_ok) (l : Launch) : e2_smOk l 10 s_d146 := e2_con0 (H := 7) (n := 2) (C := evd_240) (S := S_d146) (I := I_d146) (fuel := 4000) [] hen ei_240 (e2_fa (cs_d142 hen l) e2_fz) (e2_fa ein_212 (e2_fa ein_215 (e2_fa ein_216 (e2_fa ein_218 e2_fz)))) (by decide) co_d146 ex2_240 ck_d146
/-! d147 X10_plot -/
def as_d147 : List ev_V := [(2, 83, 0), (11, 0, 4294967295), (11, 0, 4294967295)]
def E_d147 : e2_E := [(2147483648, 2147583648, 0, 0), (2147483648, 2147483656, 1, 0), (2147483648, 2147483688, 2, 0), (2147483648, 2147483688, 3, 0)]
noncomputable def f_d147 : ev_H := (dn1542 : e2_Q8)
noncomputable def q_d147_0 : ev_H := (dn1542 : e2_Q8)
noncomputable def rs_d147 : e2_Rs := [((11, 0, 4294967295), q_d147_0)]
noncomputable def s_d147 : e2_Sm := (240, as_d147, E_d147, f_d147, rs_d147)
noncomputable def S_d147 : List e2_Sm := [s_d143]
noncomputable def I_d147 : List e2_In := [(212, 3, e2x_212), (215, 2, e2x_215), (216, 1, e2x_216), (218, 2, e2x_218)]
set_option maxRecDepth 1000000 in
theorem ck_d147 : e2_run (e2_cal S_d147 I_d147 4000 2) (e2_fin rs_d147) e2x_240 (fun _ => false) (fun _ _ _ _ _ => false) 4000 (e2_seek e2x_240 0) (e2_al 3 as_d147) [] E_d147 f_d147 = true := by decide +kernel
set_option maxRecDepth 1000000 in
theorem co_d147 : e2_okSB E_d147.length as_d147 f_d147 rs_d147 = true := by decide +kernel
theorem cs_d147 (hen : en_ok) (l : Launch) (hh : e2_hand_d l) : e2_smOk l 67 s_d147 := e2_con0 (H := 64) (n := 2) (C := evd_240) (S := S_d147) (I := I_d147) (fuel := 4000) [] hen ei_240 (e2_fa (cs_d143 hen l hh) e2_fz) (e2_fa ein_212 (e2_fa ein_215 (e2_fa ein_216 (e2_fa ein_218 e2_fz)))) (by decide) co_d147 ex2_240 ck_d147
/-! d148 X10_plot -/
def as_d148 : List ev_V := [(2, 83, 0), (11, 0, 4294967295), (11, 0, 4294967295)]
def E_d148 : e2_E := [(2147483648, 2147583648, 0, 0), (2147483648, 2147483656, 1, 0), (2147483648, 2147483688, 2, 0), (2147483648, 2147483688, 3, 0)]
noncomputable def f_d148 : ev_H := (dn1550 : e2_Q8)
noncomputable def q_d148_0 : ev_H := (dn1550 : e2_Q8)
noncomputable def rs_d148 : e2_Rs := [((11, 0, 4294967295), q_d148_0)]
noncomputable def s_d148 : e2_Sm := (240, as_d148, E_d148, f_d148, rs_d148)
noncomputable def S_d148 : List e2_Sm := [s_d144]
noncomputable def I_d148 : List e2_In := [(212, 3, e2x_212), (215, 2, e2x_215), (216, 1, e2x_216), (218, 2, e2x_218)]
set_option maxRecDepth 1000000 in
theorem ck_d148 : e2_run (e2_cal S_d148 I_d148 4000 2) (e2_fin rs_d148) e2x_240 (fun _ => false) (fun _ _ _ _ _ => false) 4000 (e2_seek e2x_240 0) (e2_al 3 as_d148) [] E_d148 f_d148 = true := by decide +kernel
set_option maxRecDepth 1000000 in
theorem co_d148 : e2_okSB E_d148.length as_d148 f_d148 rs_d148 = true := by decide +kernel
theorem cs_d148 (hen : en_ok) (l : Launch) : e2_smOk l 10 s_d148 := e2_con0 (H := 7) (n := 2) (C := evd_240) (S := S_d148) (I := I_d148) (fuel := 4000) [] hen ei_240 (e2_fa (cs_d144 hen l) e2_fz) (e2_fa ein_212 (e2_fa ein_215 (e2_fa ein_216 (e2_fa ein_218 e2_fz)))) (by decide) co_d148 ex2_240 ck_d148
/-! d149 X10_plot -/
def as_d149 : List ev_V := [(2, 83, 0), (11, 0, 4294967295), (11, 0, 4294967295)]
def E_d149 : e2_E := [(2147483648, 2147583648, 0, 0), (2147483648, 2147483656, 1, 0), (2147483648, 2147483688, 2, 0), (2147483648, 2147483688, 3, 0)]
noncomputable def f_d149 : ev_H := (dn1559 : e2_Q8)
noncomputable def q_d149_0 : ev_H := (dn1559 : e2_Q8)
noncomputable def rs_d149 : e2_Rs := [((11, 0, 4294967295), q_d149_0)]
noncomputable def s_d149 : e2_Sm := (240, as_d149, E_d149, f_d149, rs_d149)
noncomputable def S_d149 : List e2_Sm := [s_d145]
noncomputable def I_d149 : List e2_In := [(212, 3, e2x_212), (215, 2, e2x_215), (216, 1, e2x_216), (218, 2, e2x_218)]
set_option maxRecDepth 1000000 in
theorem ck_d149 : e2_run (e2_cal S_d149 I_d149 4000 2) (e2_fin rs_d149) e2x_240 (fun _ => false) (fun _ _ _ _ _ => false) 4000 (e2_seek e2x_240 0) (e2_al 3 as_d149) [] E_d149 f_d149 = true := by decide +kernel
set_option maxRecDepth 1000000 in
theorem co_d149 : e2_okSB E_d149.length as_d149 f_d149 rs_d149 = true := by decide +kernel
theorem cs_d149 (hen : en_ok) (l : Launch) (hh : e2_hand_d l) : e2_smOk l 67 s_d149 := e2_con0 (H := 64) (n := 2) (C := evd_240) (S := S_d149) (I := I_d149) (fuel := 4000) [] hen ei_240 (e2_fa (cs_d145 hen l hh) e2_fz) (e2_fa ein_212 (e2_fa ein_215 (e2_fa ein_216 (e2_fa ein_218 e2_fz)))) (by decide) co_d149 ex2_240 ck_d149
/-! d150 X10_mow -/
def as_d150 : List ev_V := [(2, 83, 0), (11, 0, 4294967295)]
def E_d150 : e2_E := [(2147483648, 2147583648, 0, 0), (2147483648, 2147483656, 1, 0), (2147483648, 2147483688, 2, 0), (2147483648, 2147483688, 3, 0)]
def dn1592 : e2_Q3 := (dn345, dn106)
def dn1593 : e2_Q4 := (dn100, dn1592)
def dn1594 : e2_Q5 := (dn1593, dn123)
def dn1595 : e2_Q6 := (dn93, dn1594)
def dn1596 : e2_Q7 := (dn62, dn1595)
def dn1597 : e2_Q8 := (dn1596, dn253)
noncomputable def f_d150 : ev_H := (dn1597 : e2_Q8)
def dn1598 : e2_Q8 := (dn1596, dn261)
noncomputable def q_d150_0 : ev_H := (dn1598 : e2_Q8)
noncomputable def q_d150_1 : ev_H := (dn1597 : e2_Q8)
noncomputable def rs_d150 : e2_Rs := [((11, 0, 4294967295), q_d150_0), ((0, 4294967295, 0), q_d150_1)]
noncomputable def s_d150 : e2_Sm := (243, as_d150, E_d150, f_d150, rs_d150)
noncomputable def S_d150 : List e2_Sm := [s_d1, s_d2, s_d12]
noncomputable def I_d150 : List e2_In := [(212, 3, e2x_212), (216, 1, e2x_216), (218, 2, e2x_218)]
set_option maxRecDepth 1000000 in
theorem ck_d150 : e2_run (e2_cal S_d150 I_d150 4000 2) (e2_fin rs_d150) e2x_243 (fun _ => false) (fun _ _ _ _ _ => false) 4000 (e2_seek e2x_243 0) (e2_al 2 as_d150) [] E_d150 f_d150 = true := by decide +kernel
set_option maxRecDepth 1000000 in
theorem co_d150 : e2_okSB E_d150.length as_d150 f_d150 rs_d150 = true := by decide +kernel
theorem cs_d150 (hen : en_ok) (l : Launch) (hh : e2_hand_d l) : e2_smOk l 63 s_d150 := e2_con0 (H := 60) (n := 2) (C := evd_243) (S := S_d150) (I := I_d150) (fuel := 4000) [] hen ei_243 (e2_fa (hh _ hm_d1) (e2_fa (hh _ hm_d2) (e2_fa ((cs_d12 hen l).mono (by decide)) e2_fz))) (e2_fa ein_212 (e2_fa ein_216 (e2_fa ein_218 e2_fz))) (by decide) co_d150 ex2_243 ck_d150
/-! d151 X10_sow -/
def as_d151 : List ev_V := [(2, 83, 0), (11, 0, 4294967295)]
def E_d151 : e2_E := [(2147483648, 2147583648, 0, 0), (2147483648, 2147483656, 1, 0), (2147483648, 2147483688, 2, 0), (2147483648, 2147483688, 3, 0)]
noncomputable def f_d151 : ev_H := (dn1597 : e2_Q8)
noncomputable def q_d151_0 : ev_H := (dn1597 : e2_Q8)
noncomputable def q_d151_1 : ev_H := (dn1598 : e2_Q8)
noncomputable def rs_d151 : e2_Rs := [((0, 4294967295, 0), q_d151_0), ((11, 0, 4294967295), q_d151_1)]
noncomputable def s_d151 : e2_Sm := (244, as_d151, E_d151, f_d151, rs_d151)
noncomputable def S_d151 : List e2_Sm := [s_d1, s_d2, s_d12]
noncomputable def I_d151 : List e2_In := [(212, 3, e2x_212), (216, 1, e2x_216), (218, 2, e2x_218)]
set_option maxRecDepth 1000000 in
theorem ck_d151 : e2_run (e2_cal S_d151 I_d151 4000 2) (e2_fin rs_d151) e2x_244 (fun _ => false) (fun _ _ _ _ _ => false) 4000 (e2_seek e2x_244 0) (e2_al 2 as_d151) [] E_d151 f_d151 = true := by decide +kernel
set_option maxRecDepth 1000000 in
theorem co_d151 : e2_okSB E_d151.length as_d151 f_d151 rs_d151 = true := by decide +kernel
theorem cs_d151 (hen : en_ok) (l : Launch) (hh : e2_hand_d l) : e2_smOk l 63 s_d151 := e2_con0 (H := 60) (n := 2) (C := evd_244) (S := S_d151) (I := I_d151) (fuel := 4000) [] hen ei_244 (e2_fa (hh _ hm_d1) (e2_fa (hh _ hm_d2) (e2_fa ((cs_d12 hen l).mono (by decide)) e2_fz))) (e2_fa ein_212 (e2_fa ein_216 (e2_fa ein_218 e2_fz))) (by decide) co_d151 ex2_244 ck_d151
/-! d152 X10_goYear -/
def as_d152 : List ev_V := [(2, 83, 0)]
def E_d152 : e2_E := [(2147483648, 2147583648, 0, 0), (2147483648, 2147483656, 1, 0), (2147483648, 2147483688, 2, 0), (2147483648, 2147483688, 3, 0)]
def dn1599 : e2_Q4 := (dn1570, dn454)
def dn1600 : e2_Q5 := (dn1599, dn356)
def dn1601 : e2_Q6 := (dn1600, dn251)
def dn1602 : e2_Q7 := (dn1019, dn1601)
def dn1603 : e2_Q8 := (dn1521, dn1602)
noncomputable def f_d152 : ev_H := (dn1603 : e2_Q8)
noncomputable def q_d152_0 : ev_H := (dn1603 : e2_Q8)
noncomputable def rs_d152 : e2_Rs := [((11, 2147483647, 2147483668), q_d152_0)]
noncomputable def s_d152 : e2_Sm := (245, as_d152, E_d152, f_d152, rs_d152)
noncomputable def S_d152 : List e2_Sm := [s_d125]
noncomputable def I_d152 : List e2_In := [(213, 2, e2x_213), (216, 1, e2x_216)]
set_option maxRecDepth 1000000 in
theorem co_d152 : e2_okSB E_d152.length as_d152 f_d152 rs_d152 = true := by decide +kernel
def al_d152_0 : List ev_V := [(2, 83, 0), (11, 2147483647, 2147483668), (1, 4, 4294967296), (9, 0, 0)]
def E_d152_0 : e2_E := [(2147483648, 2147583648, 0, 0), (2147483648, 2147483656, 1, 0), (2147483648, 2147483688, 2, 0), (2147483648, 2147483688, 3, 0), (2147483648, 2147483668, 4, 0)]
noncomputable def h_d152_0 : ev_H := (dn1603 : e2_Q8)
def al_d152_1 : List ev_V := [(2, 83, 0), (11, 2147483647, 2147483668), (1, 4, 4294967296), (9, 0, 0)]
def E_d152_1 : e2_E := [(2147483648, 2147583648, 0, 0), (2147483648, 2147483656, 1, 0), (2147483648, 2147483688, 2, 0), (2147483648, 2147483688, 3, 0), (2147483648, 2147483668, 4, 0)]
noncomputable def h_d152_1 : ev_H := (dn1603 : e2_Q8)
noncomputable def cl_d152_e : List (Nat × e2_S) := [(7, e2_cutL (al_d152_1.set 2 (11, 2147483648, 2147483668)) 4 (E_d152_1.take 4) h_d152_1)]
set_option maxRecDepth 1000000 in
theorem ck_d152_e : e2_run (e2_cal S_d152 I_d152 4000 1) (e2_fin rs_d152) e2x_245 (e2_bpL cl_d152_e) (e2_cutA cl_d152_e) 4000 (e2_seek e2x_245 0) (e2_al 4 as_d152) [] E_d152 f_d152 = true := by decide +kernel
noncomputable def cl_d152_0 : List (Nat × e2_S) := [(174, e2_cutL (al_d152_0.set 2 (13, 12, 2147483668)) 4 (E_d152_0.take 4) h_d152_0)]
set_option maxRecDepth 1000000 in
theorem ck_d152_0 : e2_runM (e2_cal S_d152 I_d152 4000 1) (e2_fin rs_d152) e2x_245 (e2_bpL cl_d152_0) (e2_cutA cl_d152_0) 4000 (e2_seek e2x_245 174) al_d152_0 [] E_d152_0 h_d152_0 = true := by decide +kernel
set_option maxRecDepth 1000000 in
theorem ci_d152_0 : e2_idl 4 (al_d152_0.set 2 (9, 0, 0)) = true := by decide +kernel
set_option maxRecDepth 1000000 in
theorem cj_d152_0 : e2_idh 4 8 h_d152_0 = true := by decide +kernel
noncomputable def cl_d152_1 : List (Nat × e2_S) := [(174, e2_cutL (al_d152_0.set 2 (11, 2147483648, 2147483668)) 4 (E_d152_0.take 4) h_d152_0),
  (7, e2_cutL (al_d152_1.set 2 (13, 12, 2147483668)) 4 (E_d152_1.take 4) h_d152_1)]
set_option maxRecDepth 1000000 in
theorem ck_d152_1 : e2_runM (e2_cal S_d152 I_d152 4000 1) (e2_fin rs_d152) e2x_245 (e2_bpL cl_d152_1) (e2_cutA cl_d152_1) 4000 (e2_seek e2x_245 7) al_d152_1 [] E_d152_1 h_d152_1 = true := by decide +kernel
set_option maxRecDepth 1000000 in
theorem ci_d152_1 : e2_idl 4 (al_d152_1.set 2 (9, 0, 0)) = true := by decide +kernel
set_option maxRecDepth 1000000 in
theorem cj_d152_1 : e2_idh 4 8 h_d152_1 = true := by decide +kernel
theorem cs_d152 (hen : en_ok) (l : Launch) : e2_smOk l 8 s_d152 := by
  refine e2_conG (H := 6) (n := 1) (C := evd_245) (S := S_d152) (I := I_d152) (fuel := 4000) hen ei_245 (e2_fa (cs_d125 hen l) e2_fz) (e2_fa ein_213 (e2_fa ein_216 e2_fz)) (by decide) co_d152 fun M d _ hC hcall p e R s m args below meth c Q D cA A ads r0 ha hl0 => ?_
  have L_0 : e2_gdM M p l e R s m args below meth c Q D cA A ads r0 174 al_d152_0 [] E_d152_0 h_d152_0 := by
    refine e2_indL (u := 4) (j := 2) (lo := 2147483648) (hi := 2147483668) (b := 4) (dd := 0) hl0 (by decide) rfl rfl (Or.inr ⟨rfl, rfl⟩) rfl ci_d152_0 cj_d152_0 ?_
    intro r_0 k_0 hk_0 hp_0 hs_0 hn_0
    have hl_0 : r_0.length ≤ 5 := hs_0.len rfl
    have ha_0 := ha.ext hp_0
    exact e2_fromM hen ha_0 hcall (e2_cutA_ok (e2_fa (fun al st E h hc => hn_0 al st E h hc) e2_fz)) (hC []) (X := e2x_245) ex2_245 174 ck_d152_0
  have EN_0 := e2_entL (u := 4) (j := 2) (lo := 2147483648) (hi := 2147483668) hl0 rfl rfl rfl ci_d152_0 cj_d152_0 L_0
  have L_1 : e2_gdM M p l e R s m args below meth c Q D cA A ads r0 7 al_d152_1 [] E_d152_1 h_d152_1 := by
    refine e2_indL (u := 4) (j := 2) (lo := 2147483648) (hi := 2147483668) (b := 4) (dd := 0) hl0 (by decide) rfl rfl (Or.inr ⟨rfl, rfl⟩) rfl ci_d152_1 cj_d152_1 ?_
    intro r_1 k_1 hk_1 hp_1 hs_1 hn_1
    have hl_1 : r_1.length ≤ 5 := hs_1.len rfl
    have ha_1 := ha.ext hp_1
    exact e2_fromM hen ha_1 hcall (e2_cutA_ok (e2_fa (fun al st E h hc => (EN_0 al st E h hc).ext hp_1) (e2_fa (fun al st E h hc => hn_1 al st E h hc) e2_fz))) (hC []) (X := e2x_245) ex2_245 7 ck_d152_1
  have EN_1 := e2_entL (u := 4) (j := 2) (lo := 2147483648) (hi := 2147483668) hl0 rfl rfl rfl ci_d152_1 cj_d152_1 L_1
  exact e2_from hen ha hcall (e2_cutA_ok (e2_fa (fun al st E h hc => EN_1 al st E h hc) e2_fz)) (hC []) (X := e2x_245) ex2_245 0 ck_d152_e
