/-! CONTRACTS b, printed by a program -/
/-! b76 X10_must -/
def as_b76 : List ev_V := [(2, 83, 0), (0, 0, 0)]
def E_b76 : e2_E := [(2147483648, 2147583648, 0, 0), (2147483648, 2147483656, 1, 0), (2147483648, 2147485249, 2, 0)]
def bc172 : ev_C := (10, [(0, 0, 0), (2, 88, 0), (2, 115, 0), (2, 114, 0), (2, 86, 0), (2, 112, 0), (11, 2147483648, 2147483688), (2, 118, 0), (2, 120, 0), (2, 131, 0), (2, 91, 0), (11, 2147483648, 2147483668), (2, 123, 0), (0, 1, 0), (11, 2147483648, 2147485248), (2, 87, 0), (2, 84, 0), (2, 122, 0), (2, 100, 0), (2, 132, 0), (11, 2147483648, 2147483668), (11, 2147483648, 2147485248), (1, 0, 4294967296), (11, 2147483649, 2147483653), (11, 2147483648, 2147485248), (2, 93, 0), (2, 104, 0), (11, 2147483648, 2147483678), (2, 89, 0), (2, 92, 0), (2, 119, 0), (2, 90, 0), (2, 94, 0), (2, 103, 0), (11, 2147483648, 2147483688), (11, 2147483648, 2147549184), (11, 0, 4294967295), (11, 2147483648, 2147485249), (0, 0, 0), (11, 2147483648, 2147483668), (2, 85, 0), (11, 0, 4294967295), (5, 0, 0), (2, 95, 0), (2, 96, 0), (2, 97, 0), (2, 98, 0), (2, 99, 0), (2, 101, 0), (2, 102, 0), (2, 105, 0), (2, 106, 0), (2, 107, 0), (2, 108, 0), (2, 109, 0), (2, 110, 0), (2, 111, 0), (11, 2147483648, 2147484768), (11, 2147482048, 2147483655), (11, 2147483648, 2147483738), (11, 2147483648, 2147483678), (11, 0, 4294967295), (11, 0, 4294967295), (11, 0, 4294967295), (11, 0, 4294967295), (11, 0, 4294967295), (2, 113, 0), (2, 116, 0), (2, 117, 0), (2, 121, 0), (11, 0, 4294967295), (11, 0, 4294967295), (2, 124, 0), (2, 125, 0), (11, 0, 4294967295), (2, 126, 0), (2, 127, 0), (2, 128, 0), (2, 129, 0), (2, 130, 0)])
def bn549 : e2_Q1 := (bc172, bc3)
def bn550 : e2_Q2 := (bn196, bn549)
def bn551 : e2_Q3 := (bn550, bn201)
def bn552 : e2_Q4 := (bn195, bn551)
def bn553 : e2_Q5 := (bn552, bn289)
def bn554 : e2_Q6 := (bn553, bn250)
def bn555 : e2_Q7 := (bn339, bn554)
def bn556 : e2_Q8 := (bn336, bn555)
noncomputable def f_b76 : ev_H := (bn556 : e2_Q8)
noncomputable def q_b76_0 : ev_H := (bn556 : e2_Q8)
noncomputable def rs_b76 : e2_Rs := [((9, 0, 0), q_b76_0)]
noncomputable def s_b76 : e2_Sm := (181, as_b76, E_b76, f_b76, rs_b76)
noncomputable def S_b76 : List e2_Sm := []
noncomputable def I_b76 : List e2_In := [(174, 1, e2x_174)]
set_option maxRecDepth 1000000 in
theorem ck_b76 : e2_run (e2_cal S_b76 I_b76 4000 1) (e2_fin rs_b76) e2x_181 (fun _ => false) (fun _ _ _ _ _ => false) 4000 (e2_seek e2x_181 0) (e2_al 2 as_b76) [] E_b76 f_b76 = true := by decide +kernel
set_option maxRecDepth 1000000 in
theorem co_b76 : e2_okSB E_b76.length as_b76 f_b76 rs_b76 = true := by decide +kernel
theorem cs_b76 (hen : en_ok) (l : Launch) : e2_smOk l 2 s_b76 := e2_con0 (H := 0) (n := 1) (C := evd_181) (S := S_b76) (I := I_b76) (fuel := 4000) [] hen ei_181 e2_fz (e2_fa ein_174 e2_fz) (by decide) co_b76 ex2_181 ck_b76
/-! b77 X10_must -/
def as_b77 : List ev_V := [(2, 83, 0), (11, 2147483648, 2147483649)]
def E_b77 : e2_E := [(2147483648, 2147583648, 0, 0), (2147483648, 2147483656, 1, 0), (2147483648, 2147485249, 2, 0)]
def bc173 : ev_C := (10, [(0, 0, 0), (2, 88, 0), (2, 115, 0), (2, 114, 0), (2, 86, 0), (2, 112, 0), (11, 2147483648, 2147483688), (2, 118, 0), (2, 120, 0), (2, 131, 0), (2, 91, 0), (11, 2147483648, 2147483668), (2, 123, 0), (0, 1, 0), (11, 2147483648, 2147485248), (2, 87, 0), (2, 84, 0), (2, 122, 0), (2, 100, 0), (2, 132, 0), (11, 2147483648, 2147483668), (11, 2147483648, 2147485248), (1, 0, 4294967296), (0, 0, 0), (13, 2, 2147485247), (2, 93, 0), (2, 104, 0), (11, 2147483648, 2147483678), (2, 89, 0), (2, 92, 0), (2, 119, 0), (2, 90, 0), (2, 94, 0), (2, 103, 0), (11, 2147483648, 2147483688), (11, 2147483648, 2147549184), (11, 0, 4294967295), (13, 2, 2147485249), (11, 2147483649, 2147483653), (11, 2147483648, 2147483668), (2, 85, 0), (11, 0, 4294967295), (5, 0, 0), (2, 95, 0), (2, 96, 0), (2, 97, 0), (2, 98, 0), (2, 99, 0), (2, 101, 0), (2, 102, 0), (2, 105, 0), (2, 106, 0), (2, 107, 0), (2, 108, 0), (2, 109, 0), (2, 110, 0), (2, 111, 0), (11, 2147483648, 2147484768), (11, 2147482048, 2147483655), (11, 2147483648, 2147483738), (11, 2147483648, 2147483678), (11, 0, 4294967295), (11, 0, 4294967295), (11, 0, 4294967295), (11, 0, 4294967295), (11, 0, 4294967295), (2, 113, 0), (2, 116, 0), (2, 117, 0), (2, 121, 0), (11, 0, 4294967295), (11, 0, 4294967295), (2, 124, 0), (2, 125, 0), (11, 0, 4294967295), (2, 126, 0), (2, 127, 0), (2, 128, 0), (2, 129, 0), (2, 130, 0)])
def bn557 : e2_Q1 := (bc173, bc3)
def bn558 : e2_Q2 := (bn196, bn557)
def bn559 : e2_Q3 := (bn558, bn201)
def bn560 : e2_Q4 := (bn195, bn559)
def bn561 : e2_Q5 := (bn560, bn289)
def bn562 : e2_Q6 := (bn561, bn250)
def bn563 : e2_Q7 := (bn448, bn562)
def bn564 : e2_Q8 := (bn336, bn563)
noncomputable def f_b77 : ev_H := (bn564 : e2_Q8)
noncomputable def q_b77_0 : ev_H := (bn508 : e2_Q8)
noncomputable def q_b77_1 : ev_H := (bn500 : e2_Q8)
def bc174 : ev_C := (10, [(0, 0, 0), (2, 88, 0), (2, 115, 0), (2, 114, 0), (2, 86, 0), (2, 112, 0), (11, 2147483648, 2147483688), (2, 118, 0), (2, 120, 0), (2, 131, 0), (2, 91, 0), (11, 2147483648, 2147483668), (2, 123, 0), (0, 1, 0), (11, 2147483648, 2147485248), (2, 87, 0), (2, 84, 0), (2, 122, 0), (2, 100, 0), (2, 132, 0), (11, 2147483648, 2147483668), (11, 2147483648, 2147485248), (1, 0, 4294967296), (11, 2147483649, 2147483653), (13, 2, 2147485247), (2, 93, 0), (2, 104, 0), (11, 2147483648, 2147483678), (2, 89, 0), (2, 92, 0), (2, 119, 0), (2, 90, 0), (2, 94, 0), (2, 103, 0), (11, 2147483648, 2147483688), (11, 2147483648, 2147549184), (13, 2, 2147485247), (13, 2, 2147485249), (11, 2147483649, 2147483653), (11, 2147483648, 2147483668), (2, 85, 0), (11, 0, 4294967295), (5, 0, 0), (2, 95, 0), (2, 96, 0), (2, 97, 0), (2, 98, 0), (2, 99, 0), (2, 101, 0), (2, 102, 0), (2, 105, 0), (2, 106, 0), (2, 107, 0), (2, 108, 0), (2, 109, 0), (2, 110, 0), (2, 111, 0), (11, 2147483648, 2147484768), (11, 2147482048, 2147483655), (11, 2147483648, 2147483738), (11, 2147483648, 2147483678), (11, 0, 4294967295), (11, 0, 4294967295), (11, 0, 4294967295), (11, 0, 4294967295), (11, 0, 4294967295), (2, 113, 0), (2, 116, 0), (2, 117, 0), (2, 121, 0), (11, 0, 4294967295), (11, 0, 4294967295), (2, 124, 0), (2, 125, 0), (11, 0, 4294967295), (2, 126, 0), (2, 127, 0), (2, 128, 0), (2, 129, 0), (2, 130, 0)])
def bn565 : e2_Q1 := (bc174, bc3)
def bn566 : e2_Q2 := (bn196, bn565)
def bn567 : e2_Q3 := (bn566, bn201)
def bn568 : e2_Q4 := (bn195, bn567)
def bn569 : e2_Q5 := (bn568, bn289)
def bn570 : e2_Q6 := (bn569, bn250)
def bn571 : e2_Q7 := (bn448, bn570)
def bn572 : e2_Q8 := (bn336, bn571)
noncomputable def q_b77_2 : ev_H := (bn572 : e2_Q8)
noncomputable def rs_b77 : e2_Rs := [((9, 0, 0), q_b77_0), ((9, 0, 0), q_b77_1), ((9, 0, 0), q_b77_2)]
noncomputable def s_b77 : e2_Sm := (181, as_b77, E_b77, f_b77, rs_b77)
noncomputable def S_b77 : List e2_Sm := [s_b74]
noncomputable def I_b77 : List e2_In := [(173, 3, e2x_173), (174, 1, e2x_174), (180, 1, e2x_180)]
set_option maxRecDepth 1000000 in
theorem ck_b77 : e2_run (e2_cal S_b77 I_b77 4000 2) (e2_fin rs_b77) e2x_181 (fun _ => false) (fun _ _ _ _ _ => false) 4000 (e2_seek e2x_181 0) (e2_al 2 as_b77) [] E_b77 f_b77 = true := by decide +kernel
set_option maxRecDepth 1000000 in
theorem co_b77 : e2_okSB E_b77.length as_b77 f_b77 rs_b77 = true := by decide +kernel
theorem cs_b77 (hen : en_ok) (l : Launch) : e2_smOk l 6 s_b77 := e2_con0 (H := 3) (n := 2) (C := evd_181) (S := S_b77) (I := I_b77) (fuel := 4000) [] hen ei_181 (e2_fa (cs_b74 hen l) e2_fz) (e2_fa ein_173 (e2_fa ein_174 (e2_fa ein_180 e2_fz))) (by decide) co_b77 ex2_181 ck_b77
/-! b78 X10_must -/
def as_b78 : List ev_V := [(2, 83, 0), (0, 0, 0)]
def E_b78 : e2_E := [(2147483648, 2147583648, 0, 0), (2147483648, 2147483656, 1, 0), (2147483648, 2147485249, 2, 0)]
def bn573 : e2_Q7 := (bn339, bn466)
def bn574 : e2_Q8 := (bn336, bn573)
noncomputable def f_b78 : ev_H := (bn574 : e2_Q8)
noncomputable def q_b78_0 : ev_H := (bn556 : e2_Q8)
noncomputable def rs_b78 : e2_Rs := [((9, 0, 0), q_b78_0)]
noncomputable def s_b78 : e2_Sm := (181, as_b78, E_b78, f_b78, rs_b78)
noncomputable def S_b78 : List e2_Sm := []
noncomputable def I_b78 : List e2_In := [(173, 3, e2x_173), (174, 1, e2x_174), (180, 1, e2x_180)]
set_option maxRecDepth 1000000 in
theorem ck_b78 : e2_run (e2_cal S_b78 I_b78 4000 2) (e2_fin rs_b78) e2x_181 (fun _ => false) (fun _ _ _ _ _ => false) 4000 (e2_seek e2x_181 0) (e2_al 2 as_b78) [] E_b78 f_b78 = true := by decide +kernel
set_option maxRecDepth 1000000 in
theorem co_b78 : e2_okSB E_b78.length as_b78 f_b78 rs_b78 = true := by decide +kernel
theorem cs_b78 (hen : en_ok) (l : Launch) : e2_smOk l 3 s_b78 := e2_con0 (H := 0) (n := 2) (C := evd_181) (S := S_b78) (I := I_b78) (fuel := 4000) [] hen ei_181 e2_fz (e2_fa ein_173 (e2_fa ein_174 (e2_fa ein_180 e2_fz))) (by decide) co_b78 ex2_181 ck_b78
/-! b79 X10_must -/
def as_b79 : List ev_V := [(2, 83, 0), (11, 2147483648, 2147483649)]
def E_b79 : e2_E := [(2147483648, 2147583648, 0, 0), (2147483648, 2147483656, 1, 0), (2147483648, 2147485249, 2, 0)]
def bn575 : e2_Q7 := (bn339, bn570)
def bn576 : e2_Q8 := (bn336, bn575)
noncomputable def f_b79 : ev_H := (bn576 : e2_Q8)
noncomputable def q_b79_0 : ev_H := (bn576 : e2_Q8)
noncomputable def rs_b79 : e2_Rs := [((9, 0, 0), q_b79_0)]
noncomputable def s_b79 : e2_Sm := (181, as_b79, E_b79, f_b79, rs_b79)
noncomputable def S_b79 : List e2_Sm := []
noncomputable def I_b79 : List e2_In := [(174, 1, e2x_174)]
set_option maxRecDepth 1000000 in
theorem ck_b79 : e2_run (e2_cal S_b79 I_b79 4000 1) (e2_fin rs_b79) e2x_181 (fun _ => false) (fun _ _ _ _ _ => false) 4000 (e2_seek e2x_181 0) (e2_al 2 as_b79) [] E_b79 f_b79 = true := by decide +kernel
set_option maxRecDepth 1000000 in
theorem co_b79 : e2_okSB E_b79.length as_b79 f_b79 rs_b79 = true := by decide +kernel
theorem cs_b79 (hen : en_ok) (l : Launch) : e2_smOk l 2 s_b79 := e2_con0 (H := 0) (n := 1) (C := evd_181) (S := S_b79) (I := I_b79) (fuel := 4000) [] hen ei_181 e2_fz (e2_fa ein_174 e2_fz) (by decide) co_b79 ex2_181 ck_b79
/-! b80 X10_must -/
def as_b80 : List ev_V := [(2, 83, 0), (0, 0, 0)]
def E_b80 : e2_E := [(2147483648, 2147583648, 0, 0), (2147483648, 2147483656, 1, 0), (2147483648, 2147485249, 2, 0)]
def bn577 : e2_Q7 := (bn339, bn291)
def bn578 : e2_Q8 := (bn336, bn577)
noncomputable def f_b80 : ev_H := (bn578 : e2_Q8)
def bc175 : ev_C := (10, [(0, 0, 0), (2, 88, 0), (2, 115, 0), (2, 114, 0), (2, 86, 0), (2, 112, 0), (11, 2147483648, 2147483688), (2, 118, 0), (2, 120, 0), (2, 131, 0), (2, 91, 0), (11, 2147483648, 2147483668), (2, 123, 0), (0, 1, 0), (11, 2147483648, 2147485248), (2, 87, 0), (2, 84, 0), (2, 122, 0), (2, 100, 0), (2, 132, 0), (11, 2147483648, 2147483668), (11, 2147483648, 2147485248), (1, 0, 4294967296), (11, 2147483649, 2147483653), (11, 2147483648, 2147485248), (2, 93, 0), (2, 104, 0), (11, 2147483648, 2147483678), (2, 89, 0), (2, 92, 0), (2, 119, 0), (2, 90, 0), (2, 94, 0), (2, 103, 0), (11, 2147483648, 2147483688), (11, 2147483648, 2147549184), (11, 0, 4294967295), (11, 2147483648, 2147485249), (11, 2147483648, 2147483653), (11, 2147483648, 2147483668), (2, 85, 0), (11, 0, 4294967295), (5, 0, 0), (2, 95, 0), (2, 96, 0), (2, 97, 0), (2, 98, 0), (2, 99, 0), (2, 101, 0), (2, 102, 0), (2, 105, 0), (2, 106, 0), (2, 107, 0), (2, 108, 0), (2, 109, 0), (2, 110, 0), (2, 111, 0), (11, 2147483648, 2147484768), (11, 2147482048, 2147483655), (11, 2147483648, 2147483738), (11, 2147483648, 2147483678), (11, 0, 4294967295), (11, 0, 4294967295), (11, 0, 4294967295), (11, 0, 4294967295), (11, 0, 4294967295), (2, 113, 0), (2, 116, 0), (2, 117, 0), (2, 121, 0), (11, 0, 4294967295), (11, 0, 4294967295), (2, 124, 0), (2, 125, 0), (11, 0, 4294967295), (2, 126, 0), (2, 127, 0), (2, 128, 0), (2, 129, 0), (2, 130, 0)])
def bn579 : e2_Q1 := (bc175, bc3)
def bn580 : e2_Q2 := (bn196, bn579)
def bn581 : e2_Q3 := (bn580, bn201)
def bn582 : e2_Q4 := (bn195, bn581)
def bn583 : e2_Q5 := (bn582, bn289)
def bn584 : e2_Q6 := (bn583, bn250)
def bn585 : e2_Q7 := (bn339, bn584)
def bn586 : e2_Q8 := (bn336, bn585)
noncomputable def q_b80_0 : ev_H := (bn586 : e2_Q8)
def bc176 : ev_C := (10, [(0, 0, 0), (2, 88, 0), (2, 115, 0), (2, 114, 0), (2, 86, 0), (2, 112, 0), (11, 2147483648, 2147483688), (2, 118, 0), (2, 120, 0), (2, 131, 0), (2, 91, 0), (11, 2147483648, 2147483668), (2, 123, 0), (0, 1, 0), (11, 2147483648, 2147485248), (2, 87, 0), (2, 84, 0), (2, 122, 0), (2, 100, 0), (2, 132, 0), (11, 2147483648, 2147483668), (11, 2147483648, 2147485248), (1, 0, 4294967296), (11, 2147483649, 2147483653), (11, 2147483648, 2147485248), (2, 93, 0), (2, 104, 0), (11, 2147483648, 2147483678), (2, 89, 0), (2, 92, 0), (2, 119, 0), (2, 90, 0), (2, 94, 0), (2, 103, 0), (11, 2147483648, 2147483688), (11, 2147483648, 2147549184), (11, 0, 4294967295), (11, 2147483648, 2147485249), (11, 2147483649, 2147483653), (11, 2147483648, 2147483668), (2, 85, 0), (11, 0, 4294967295), (5, 0, 0), (2, 95, 0), (2, 96, 0), (2, 97, 0), (2, 98, 0), (2, 99, 0), (2, 101, 0), (2, 102, 0), (2, 105, 0), (2, 106, 0), (2, 107, 0), (2, 108, 0), (2, 109, 0), (2, 110, 0), (2, 111, 0), (11, 2147483648, 2147484768), (11, 2147482048, 2147483655), (11, 2147483648, 2147483738), (11, 2147483648, 2147483678), (11, 0, 4294967295), (11, 0, 4294967295), (11, 0, 4294967295), (11, 0, 4294967295), (11, 0, 4294967295), (2, 113, 0), (2, 116, 0), (2, 117, 0), (2, 121, 0), (11, 0, 4294967295), (11, 0, 4294967295), (2, 124, 0), (2, 125, 0), (11, 0, 4294967295), (2, 126, 0), (2, 127, 0), (2, 128, 0), (2, 129, 0), (2, 130, 0)])
def bn587 : e2_Q1 := (bc176, bc3)
def bn588 : e2_Q2 := (bn196, bn587)
def bn589 : e2_Q3 := (bn588, bn201)
def bn590 : e2_Q4 := (bn195, bn589)
def bn591 : e2_Q5 := (bn590, bn289)
def bn592 : e2_Q6 := (bn591, bn250)
def bn593 : e2_Q7 := (bn339, bn592)
def bn594 : e2_Q8 := (bn336, bn593)
noncomputable def q_b80_1 : ev_H := (bn594 : e2_Q8)
noncomputable def rs_b80 : e2_Rs := [((9, 0, 0), q_b80_0), ((9, 0, 0), q_b80_1)]
noncomputable def s_b80 : e2_Sm := (181, as_b80, E_b80, f_b80, rs_b80)
noncomputable def S_b80 : List e2_Sm := []
noncomputable def I_b80 : List e2_In := [(173, 3, e2x_173), (174, 1, e2x_174), (180, 1, e2x_180)]
set_option maxRecDepth 1000000 in
theorem ck_b80 : e2_run (e2_cal S_b80 I_b80 4000 2) (e2_fin rs_b80) e2x_181 (fun _ => false) (fun _ _ _ _ _ => false) 4000 (e2_seek e2x_181 0) (e2_al 2 as_b80) [] E_b80 f_b80 = true := by decide +kernel
set_option maxRecDepth 1000000 in
theorem co_b80 : e2_okSB E_b80.length as_b80 f_b80 rs_b80 = true := by decide +kernel
theorem cs_b80 (hen : en_ok) (l : Launch) : e2_smOk l 3 s_b80 := e2_con0 (H := 0) (n := 2) (C := evd_181) (S := S_b80) (I := I_b80) (fuel := 4000) [] hen ei_181 e2_fz (e2_fa ein_173 (e2_fa ein_174 (e2_fa ein_180 e2_fz))) (by decide) co_b80 ex2_181 ck_b80
/-! b81 X10_must -/
def as_b81 : List ev_V := [(2, 83, 0), (11, 2147483648, 2147483649)]
def E_b81 : e2_E := [(2147483648, 2147583648, 0, 0), (2147483648, 2147483656, 1, 0), (2147483648, 2147485249, 2, 0)]
def bc177 : ev_C := (10, [(0, 0, 0), (2, 88, 0), (2, 115, 0), (2, 114, 0), (2, 86, 0), (2, 112, 0), (11, 2147483648, 2147483688), (2, 118, 0), (2, 120, 0), (2, 131, 0), (2, 91, 0), (11, 2147483648, 2147483668), (2, 123, 0), (0, 1, 0), (11, 2147483648, 2147485248), (2, 87, 0), (2, 84, 0), (2, 122, 0), (2, 100, 0), (2, 132, 0), (11, 2147483648, 2147483668), (11, 2147483648, 2147485248), (1, 0, 4294967296), (11, 2147483648, 2147483653), (11, 2147483648, 2147485248), (2, 93, 0), (2, 104, 0), (11, 2147483648, 2147483678), (2, 89, 0), (2, 92, 0), (2, 119, 0), (2, 90, 0), (2, 94, 0), (2, 103, 0), (11, 2147483648, 2147483688), (11, 2147483648, 2147549184), (11, 0, 4294967295), (11, 2147483648, 2147485249), (11, 2147483649, 2147483653), (11, 2147483648, 2147483668), (2, 85, 0), (11, 0, 4294967295), (5, 0, 0), (2, 95, 0), (2, 96, 0), (2, 97, 0), (2, 98, 0), (2, 99, 0), (2, 101, 0), (2, 102, 0), (2, 105, 0), (2, 106, 0), (2, 107, 0), (2, 108, 0), (2, 109, 0), (2, 110, 0), (2, 111, 0), (11, 2147483648, 2147484768), (11, 2147482048, 2147483655), (11, 2147483648, 2147483738), (11, 2147483648, 2147483678), (11, 0, 4294967295), (11, 0, 4294967295), (11, 0, 4294967295), (11, 0, 4294967295), (11, 0, 4294967295), (2, 113, 0), (2, 116, 0), (2, 117, 0), (2, 121, 0), (11, 0, 4294967295), (11, 0, 4294967295), (2, 124, 0), (2, 125, 0), (11, 0, 4294967295), (2, 126, 0), (2, 127, 0), (2, 128, 0), (2, 129, 0), (2, 130, 0)])
def bn595 : e2_Q1 := (bc177, bc3)
def bn596 : e2_Q2 := (bn196, bn595)
def bn597 : e2_Q3 := (bn596, bn201)
def bn598 : e2_Q4 := (bn195, bn597)
def bn599 : e2_Q5 := (bn598, bn289)
def bn600 : e2_Q6 := (bn599, bn250)
def bn601 : e2_Q7 := (bn448, bn600)
def bn602 : e2_Q8 := (bn336, bn601)
noncomputable def f_b81 : ev_H := (bn602 : e2_Q8)
def bn603 : e2_Q7 := (bn448, bn592)
def bn604 : e2_Q8 := (bn336, bn603)
noncomputable def q_b81_0 : ev_H := (bn604 : e2_Q8)
noncomputable def q_b81_1 : ev_H := (bn468 : e2_Q8)
noncomputable def q_b81_2 : ev_H := (bn460 : e2_Q8)
noncomputable def rs_b81 : e2_Rs := [((9, 0, 0), q_b81_0), ((9, 0, 0), q_b81_1), ((9, 0, 0), q_b81_2)]
noncomputable def s_b81 : e2_Sm := (181, as_b81, E_b81, f_b81, rs_b81)
noncomputable def S_b81 : List e2_Sm := [s_b75]
noncomputable def I_b81 : List e2_In := [(173, 3, e2x_173), (174, 1, e2x_174), (180, 1, e2x_180)]
set_option maxRecDepth 1000000 in
theorem ck_b81 : e2_run (e2_cal S_b81 I_b81 4000 2) (e2_fin rs_b81) e2x_181 (fun _ => false) (fun _ _ _ _ _ => false) 4000 (e2_seek e2x_181 0) (e2_al 2 as_b81) [] E_b81 f_b81 = true := by decide +kernel
set_option maxRecDepth 1000000 in
theorem co_b81 : e2_okSB E_b81.length as_b81 f_b81 rs_b81 = true := by decide +kernel
theorem cs_b81 (hen : en_ok) (l : Launch) : e2_smOk l 6 s_b81 := e2_con0 (H := 3) (n := 2) (C := evd_181) (S := S_b81) (I := I_b81) (fuel := 4000) [] hen ei_181 (e2_fa (cs_b75 hen l) e2_fz) (e2_fa ein_173 (e2_fa ein_174 (e2_fa ein_180 e2_fz))) (by decide) co_b81 ex2_181 ck_b81
/-! b82 X10_must -/
def as_b82 : List ev_V := [(2, 83, 0), (11, 2147483648, 2147483649)]
def E_b82 : e2_E := [(2147483648, 2147583648, 0, 0), (2147483648, 2147483656, 1, 0), (2147483648, 2147485249, 2, 0)]
noncomputable def f_b82 : ev_H := (bn460 : e2_Q8)
noncomputable def q_b82_0 : ev_H := (bn468 : e2_Q8)
noncomputable def q_b82_1 : ev_H := (bn460 : e2_Q8)
noncomputable def q_b82_2 : ev_H := (bn604 : e2_Q8)
noncomputable def rs_b82 : e2_Rs := [((9, 0, 0), q_b82_0), ((9, 0, 0), q_b82_1), ((9, 0, 0), q_b82_2)]
noncomputable def s_b82 : e2_Sm := (181, as_b82, E_b82, f_b82, rs_b82)
noncomputable def S_b82 : List e2_Sm := [s_b75]
noncomputable def I_b82 : List e2_In := [(173, 3, e2x_173), (174, 1, e2x_174), (180, 1, e2x_180)]
set_option maxRecDepth 1000000 in
theorem ck_b82 : e2_run (e2_cal S_b82 I_b82 4000 2) (e2_fin rs_b82) e2x_181 (fun _ => false) (fun _ _ _ _ _ => false) 4000 (e2_seek e2x_181 0) (e2_al 2 as_b82) [] E_b82 f_b82 = true := by decide +kernel
set_option maxRecDepth 1000000 in
theorem co_b82 : e2_okSB E_b82.length as_b82 f_b82 rs_b82 = true := by decide +kernel
theorem cs_b82 (hen : en_ok) (l : Launch) : e2_smOk l 6 s_b82 := e2_con0 (H := 3) (n := 2) (C := evd_181) (S := S_b82) (I := I_b82) (fuel := 4000) [] hen ei_181 (e2_fa (cs_b75 hen l) e2_fz) (e2_fa ein_173 (e2_fa ein_174 (e2_fa ein_180 e2_fz))) (by decide) co_b82 ex2_181 ck_b82
/-! b83 X10_must -/
def as_b83 : List ev_V := [(2, 83, 0), (0, 0, 0)]
def E_b83 : e2_E := [(2147483648, 2147583648, 0, 0), (2147483648, 2147483656, 1, 0), (2147483648, 2147485249, 2, 0)]
noncomputable def f_b83 : ev_H := (bn586 : e2_Q8)
noncomputable def q_b83_0 : ev_H := (bn586 : e2_Q8)
noncomputable def rs_b83 : e2_Rs := [((9, 0, 0), q_b83_0)]
noncomputable def s_b83 : e2_Sm := (181, as_b83, E_b83, f_b83, rs_b83)
noncomputable def S_b83 : List e2_Sm := []
noncomputable def I_b83 : List e2_In := [(174, 1, e2x_174)]
set_option maxRecDepth 1000000 in
theorem ck_b83 : e2_run (e2_cal S_b83 I_b83 4000 1) (e2_fin rs_b83) e2x_181 (fun _ => false) (fun _ _ _ _ _ => false) 4000 (e2_seek e2x_181 0) (e2_al 2 as_b83) [] E_b83 f_b83 = true := by decide +kernel
set_option maxRecDepth 1000000 in
theorem co_b83 : e2_okSB E_b83.length as_b83 f_b83 rs_b83 = true := by decide +kernel
theorem cs_b83 (hen : en_ok) (l : Launch) : e2_smOk l 2 s_b83 := e2_con0 (H := 0) (n := 1) (C := evd_181) (S := S_b83) (I := I_b83) (fuel := 4000) [] hen ei_181 e2_fz (e2_fa ein_174 e2_fz) (by decide) co_b83 ex2_181 ck_b83
/-! b84 X10_must -/
def as_b84 : List ev_V := [(2, 83, 0), (11, 2147483648, 2147483649)]
def E_b84 : e2_E := [(2147483648, 2147583648, 0, 0), (2147483648, 2147483656, 1, 0), (2147483648, 2147485249, 2, 0)]
noncomputable def f_b84 : ev_H := (bn594 : e2_Q8)
noncomputable def q_b84_0 : ev_H := (bn594 : e2_Q8)
noncomputable def rs_b84 : e2_Rs := [((9, 0, 0), q_b84_0)]
noncomputable def s_b84 : e2_Sm := (181, as_b84, E_b84, f_b84, rs_b84)
noncomputable def S_b84 : List e2_Sm := []
noncomputable def I_b84 : List e2_In := [(174, 1, e2x_174)]
set_option maxRecDepth 1000000 in
theorem ck_b84 : e2_run (e2_cal S_b84 I_b84 4000 1) (e2_fin rs_b84) e2x_181 (fun _ => false) (fun _ _ _ _ _ => false) 4000 (e2_seek e2x_181 0) (e2_al 2 as_b84) [] E_b84 f_b84 = true := by decide +kernel
set_option maxRecDepth 1000000 in
theorem co_b84 : e2_okSB E_b84.length as_b84 f_b84 rs_b84 = true := by decide +kernel
theorem cs_b84 (hen : en_ok) (l : Launch) : e2_smOk l 2 s_b84 := e2_con0 (H := 0) (n := 1) (C := evd_181) (S := S_b84) (I := I_b84) (fuel := 4000) [] hen ei_181 e2_fz (e2_fa ein_174 e2_fz) (by decide) co_b84 ex2_181 ck_b84
/-! b85 X10_numeral -/
def as_b85 : List ev_V := [(2, 83, 0), (11, 2147483648, 2147483652), (11, 2147483647, 2147484647)]
def E_b85 : e2_E := [(2147483648, 2147583648, 0, 0), (2147483648, 2147483656, 1, 0), (2147483648, 2147485249, 2, 0)]
noncomputable def f_b85 : ev_H := (bn574 : e2_Q8)
noncomputable def q_b85_0 : ev_H := (bn556 : e2_Q8)
noncomputable def rs_b85 : e2_Rs := [((11, 2147483648, 2147483652), q_b85_0)]
noncomputable def s_b85 : e2_Sm := (182, as_b85, E_b85, f_b85, rs_b85)
noncomputable def S_b85 : List e2_Sm := []
noncomputable def I_b85 : List e2_In := [(173, 3, e2x_173), (174, 1, e2x_174), (180, 1, e2x_180)]
set_option maxRecDepth 1000000 in
theorem ck_b85 : e2_run (e2_cal S_b85 I_b85 4000 2) (e2_fin rs_b85) e2x_182 (fun _ => false) (fun _ _ _ _ _ => false) 4000 (e2_seek e2x_182 0) (e2_al 4 as_b85) [] E_b85 f_b85 = true := by decide +kernel
set_option maxRecDepth 1000000 in
theorem co_b85 : e2_okSB E_b85.length as_b85 f_b85 rs_b85 = true := by decide +kernel
theorem cs_b85 (hen : en_ok) (l : Launch) : e2_smOk l 3 s_b85 := e2_con0 (H := 0) (n := 2) (C := evd_182) (S := S_b85) (I := I_b85) (fuel := 4000) [] hen ei_182 e2_fz (e2_fa ein_173 (e2_fa ein_174 (e2_fa ein_180 e2_fz))) (by decide) co_b85 ex2_182 ck_b85
/-! b86 X10_numeral -/
def as_b86 : List ev_V := [(2, 83, 0), (11, 2147483648, 2147483652), (11, 2147483647, 2147484647)]
def E_b86 : e2_E := [(2147483648, 2147583648, 0, 0), (2147483648, 2147483656, 1, 0), (2147483648, 2147485249, 2, 0)]
noncomputable def f_b86 : ev_H := (bn564 : e2_Q8)
noncomputable def q_b86_0 : ev_H := (bn572 : e2_Q8)
noncomputable def q_b86_1 : ev_H := (bn508 : e2_Q8)
noncomputable def q_b86_2 : ev_H := (bn500 : e2_Q8)
noncomputable def rs_b86 : e2_Rs := [((11, 2147483648, 2147483652), q_b86_0), ((11, 2147483648, 2147484647), q_b86_1), ((11, 2147483648, 2147484647), q_b86_2)]
noncomputable def s_b86 : e2_Sm := (182, as_b86, E_b86, f_b86, rs_b86)
noncomputable def S_b86 : List e2_Sm := [s_b74]
noncomputable def I_b86 : List e2_In := [(173, 3, e2x_173), (174, 1, e2x_174), (180, 1, e2x_180)]
set_option maxRecDepth 1000000 in
theorem ck_b86 : e2_run (e2_cal S_b86 I_b86 4000 2) (e2_fin rs_b86) e2x_182 (fun _ => false) (fun _ _ _ _ _ => false) 4000 (e2_seek e2x_182 0) (e2_al 4 as_b86) [] E_b86 f_b86 = true := by decide +kernel
set_option maxRecDepth 1000000 in
theorem co_b86 : e2_okSB E_b86.length as_b86 f_b86 rs_b86 = true := by decide +kernel
theorem cs_b86 (hen : en_ok) (l : Launch) : e2_smOk l 6 s_b86 := e2_con0 (H := 3) (n := 2) (C := evd_182) (S := S_b86) (I := I_b86) (fuel := 4000) [] hen ei_182 (e2_fa (cs_b74 hen l) e2_fz) (e2_fa ein_173 (e2_fa ein_174 (e2_fa ein_180 e2_fz))) (by decide) co_b86 ex2_182 ck_b86
/-! b87 X10_numeral -/
def as_b87 : List ev_V := [(2, 83, 0), (0, 0, 0), (0, 99, 0)]
def E_b87 : e2_E := [(2147483648, 2147583648, 0, 0), (2147483648, 2147483656, 1, 0), (2147483648, 2147485249, 2, 0)]
noncomputable def f_b87 : ev_H := (bn556 : e2_Q8)
noncomputable def q_b87_0 : ev_H := (bn556 : e2_Q8)
noncomputable def rs_b87 : e2_Rs := [((0, 0, 0), q_b87_0)]
noncomputable def s_b87 : e2_Sm := (182, as_b87, E_b87, f_b87, rs_b87)
noncomputable def S_b87 : List e2_Sm := []
noncomputable def I_b87 : List e2_In := [(174, 1, e2x_174)]
set_option maxRecDepth 1000000 in
theorem ck_b87 : e2_run (e2_cal S_b87 I_b87 4000 1) (e2_fin rs_b87) e2x_182 (fun _ => false) (fun _ _ _ _ _ => false) 4000 (e2_seek e2x_182 0) (e2_al 4 as_b87) [] E_b87 f_b87 = true := by decide +kernel
set_option maxRecDepth 1000000 in
theorem co_b87 : e2_okSB E_b87.length as_b87 f_b87 rs_b87 = true := by decide +kernel
theorem cs_b87 (hen : en_ok) (l : Launch) : e2_smOk l 2 s_b87 := e2_con0 (H := 0) (n := 1) (C := evd_182) (S := S_b87) (I := I_b87) (fuel := 4000) [] hen ei_182 e2_fz (e2_fa ein_174 e2_fz) (by decide) co_b87 ex2_182 ck_b87
/-! b88 X10_numeral -/
def as_b88 : List ev_V := [(2, 83, 0), (0, 0, 0), (0, 99, 0)]
def E_b88 : e2_E := [(2147483648, 2147583648, 0, 0), (2147483648, 2147483656, 1, 0), (2147483648, 2147485249, 2, 0)]
noncomputable def f_b88 : ev_H := (bn576 : e2_Q8)
noncomputable def q_b88_0 : ev_H := (bn576 : e2_Q8)
noncomputable def rs_b88 : e2_Rs := [((0, 0, 0), q_b88_0)]
noncomputable def s_b88 : e2_Sm := (182, as_b88, E_b88, f_b88, rs_b88)
noncomputable def S_b88 : List e2_Sm := []
noncomputable def I_b88 : List e2_In := [(174, 1, e2x_174)]
set_option maxRecDepth 1000000 in
theorem ck_b88 : e2_run (e2_cal S_b88 I_b88 4000 1) (e2_fin rs_b88) e2x_182 (fun _ => false) (fun _ _ _ _ _ => false) 4000 (e2_seek e2x_182 0) (e2_al 4 as_b88) [] E_b88 f_b88 = true := by decide +kernel
set_option maxRecDepth 1000000 in
theorem co_b88 : e2_okSB E_b88.length as_b88 f_b88 rs_b88 = true := by decide +kernel
theorem cs_b88 (hen : en_ok) (l : Launch) : e2_smOk l 2 s_b88 := e2_con0 (H := 0) (n := 1) (C := evd_182) (S := S_b88) (I := I_b88) (fuel := 4000) [] hen ei_182 e2_fz (e2_fa ein_174 e2_fz) (by decide) co_b88 ex2_182 ck_b88
/-! b89 X10_after -/
def as_b89 : List ev_V := [(2, 83, 0), (4, 24948, 0), (0, 0, 0), (0, 99, 0)]
def E_b89 : e2_E := [(2147483648, 2147583648, 0, 0), (2147483648, 2147483656, 1, 0), (2147483648, 2147485249, 2, 0)]
noncomputable def f_b89 : ev_H := (bn556 : e2_Q8)
noncomputable def q_b89_0 : ev_H := (bn556 : e2_Q8)
noncomputable def rs_b89 : e2_Rs := [((0, 0, 0), q_b89_0)]
noncomputable def s_b89 : e2_Sm := (183, as_b89, E_b89, f_b89, rs_b89)
noncomputable def S_b89 : List e2_Sm := [s_b76, s_b87]
noncomputable def I_b89 : List e2_In := [(179, 3, e2x_179)]
set_option maxRecDepth 1000000 in
theorem ck_b89 : e2_run (e2_cal S_b89 I_b89 4000 1) (e2_fin rs_b89) e2x_183 (fun _ => false) (fun _ _ _ _ _ => false) 4000 (e2_seek e2x_183 0) (e2_al 5 as_b89) [] E_b89 f_b89 = true := by decide +kernel
set_option maxRecDepth 1000000 in
theorem co_b89 : e2_okSB E_b89.length as_b89 f_b89 rs_b89 = true := by decide +kernel
theorem cs_b89 (hen : en_ok) (l : Launch) : e2_smOk l 4 s_b89 := e2_con0 (H := 2) (n := 1) (C := evd_183) (S := S_b89) (I := I_b89) (fuel := 4000) [] hen ei_183 (e2_fa (cs_b76 hen l) (e2_fa (cs_b87 hen l) e2_fz)) (e2_fa ein_179 e2_fz) (by decide) co_b89 ex2_183 ck_b89
/-! b90 X10_after -/
def as_b90 : List ev_V := [(2, 83, 0), (4, 24948, 0), (0, 0, 0), (0, 99, 0)]
def E_b90 : e2_E := [(2147483648, 2147583648, 0, 0), (2147483648, 2147483656, 1, 0), (2147483648, 2147485249, 2, 0)]
noncomputable def f_b90 : ev_H := (bn564 : e2_Q8)
noncomputable def q_b90_0 : ev_H := (bn572 : e2_Q8)
noncomputable def q_b90_1 : ev_H := (bn500 : e2_Q8)
noncomputable def q_b90_2 : ev_H := (bn508 : e2_Q8)
def bn605 : e2_Q7 := (bn448, bn554)
def bn606 : e2_Q8 := (bn336, bn605)
noncomputable def q_b90_3 : ev_H := (bn606 : e2_Q8)
noncomputable def rs_b90 : e2_Rs := [((11, 2147483648, 2147483652), q_b90_0), ((11, 2147483648, 2147484647), q_b90_1), ((11, 2147483648, 2147484647), q_b90_2), ((11, 2147483648, 2147483652), q_b90_3)]
noncomputable def s_b90 : e2_Sm := (183, as_b90, E_b90, f_b90, rs_b90)
noncomputable def S_b90 : List e2_Sm := [s_b77, s_b85, s_b86, s_b88]
noncomputable def I_b90 : List e2_In := [(179, 3, e2x_179)]
set_option maxRecDepth 1000000 in
theorem ck_b90 : e2_run (e2_cal S_b90 I_b90 4000 1) (e2_fin rs_b90) e2x_183 (fun _ => false) (fun _ _ _ _ _ => false) 4000 (e2_seek e2x_183 0) (e2_al 5 as_b90) [] E_b90 f_b90 = true := by decide +kernel
set_option maxRecDepth 1000000 in
theorem co_b90 : e2_okSB E_b90.length as_b90 f_b90 rs_b90 = true := by decide +kernel
theorem cs_b90 (hen : en_ok) (l : Launch) : e2_smOk l 8 s_b90 := e2_con0 (H := 6) (n := 1) (C := evd_183) (S := S_b90) (I := I_b90) (fuel := 4000) [] hen ei_183 (e2_fa (cs_b77 hen l) (e2_fa ((cs_b85 hen l).mono (by decide)) (e2_fa (cs_b86 hen l) (e2_fa ((cs_b88 hen l).mono (by decide)) e2_fz)))) (e2_fa ein_179 e2_fz) (by decide) co_b90 ex2_183 ck_b90
/-! b91 X10_after -/
def as_b91 : List ev_V := [(2, 83, 0), (4, 24948, 0), (0, 0, 0), (0, 99, 0)]
def E_b91 : e2_E := [(2147483648, 2147583648, 0, 0), (2147483648, 2147483656, 1, 0), (2147483648, 2147485249, 2, 0)]
noncomputable def f_b91 : ev_H := (bn574 : e2_Q8)
noncomputable def q_b91_0 : ev_H := (bn556 : e2_Q8)
noncomputable def rs_b91 : e2_Rs := [((0, 0, 0), q_b91_0)]
noncomputable def s_b91 : e2_Sm := (183, as_b91, E_b91, f_b91, rs_b91)
noncomputable def S_b91 : List e2_Sm := [s_b78, s_b87]
noncomputable def I_b91 : List e2_In := [(179, 3, e2x_179)]
set_option maxRecDepth 1000000 in
theorem ck_b91 : e2_run (e2_cal S_b91 I_b91 4000 1) (e2_fin rs_b91) e2x_183 (fun _ => false) (fun _ _ _ _ _ => false) 4000 (e2_seek e2x_183 0) (e2_al 5 as_b91) [] E_b91 f_b91 = true := by decide +kernel
set_option maxRecDepth 1000000 in
theorem co_b91 : e2_okSB E_b91.length as_b91 f_b91 rs_b91 = true := by decide +kernel
theorem cs_b91 (hen : en_ok) (l : Launch) : e2_smOk l 5 s_b91 := e2_con0 (H := 3) (n := 1) (C := evd_183) (S := S_b91) (I := I_b91) (fuel := 4000) [] hen ei_183 (e2_fa (cs_b78 hen l) (e2_fa ((cs_b87 hen l).mono (by decide)) e2_fz)) (e2_fa ein_179 e2_fz) (by decide) co_b91 ex2_183 ck_b91
/-! b92 X10_after -/
def as_b92 : List ev_V := [(2, 83, 0), (4, 24948, 0), (0, 0, 0), (0, 99, 0)]
def E_b92 : e2_E := [(2147483648, 2147583648, 0, 0), (2147483648, 2147483656, 1, 0), (2147483648, 2147485249, 2, 0)]
noncomputable def f_b92 : ev_H := (bn576 : e2_Q8)
noncomputable def q_b92_0 : ev_H := (bn576 : e2_Q8)
noncomputable def rs_b92 : e2_Rs := [((0, 0, 0), q_b92_0)]
noncomputable def s_b92 : e2_Sm := (183, as_b92, E_b92, f_b92, rs_b92)
noncomputable def S_b92 : List e2_Sm := [s_b79, s_b88]
noncomputable def I_b92 : List e2_In := [(179, 3, e2x_179)]
set_option maxRecDepth 1000000 in
theorem ck_b92 : e2_run (e2_cal S_b92 I_b92 4000 1) (e2_fin rs_b92) e2x_183 (fun _ => false) (fun _ _ _ _ _ => false) 4000 (e2_seek e2x_183 0) (e2_al 5 as_b92) [] E_b92 f_b92 = true := by decide +kernel
set_option maxRecDepth 1000000 in
theorem co_b92 : e2_okSB E_b92.length as_b92 f_b92 rs_b92 = true := by decide +kernel
theorem cs_b92 (hen : en_ok) (l : Launch) : e2_smOk l 4 s_b92 := e2_con0 (H := 2) (n := 1) (C := evd_183) (S := S_b92) (I := I_b92) (fuel := 4000) [] hen ei_183 (e2_fa (cs_b79 hen l) (e2_fa (cs_b88 hen l) e2_fz)) (e2_fa ein_179 e2_fz) (by decide) co_b92 ex2_183 ck_b92
/-! b93 X10_signed -/
def as_b93 : List ev_V := [(2, 83, 0)]
def E_b93 : e2_E := [(2147483648, 2147583648, 0, 0), (2147483648, 2147483656, 1, 0), (2147483648, 2147485249, 2, 0)]
noncomputable def f_b93 : ev_H := (bn594 : e2_Q8)
noncomputable def q_b93_0 : ev_H := (bn594 : e2_Q8)
noncomputable def rs_b93 : e2_Rs := [((0, 0, 0), q_b93_0)]
noncomputable def s_b93 : e2_Sm := (184, as_b93, E_b93, f_b93, rs_b93)
noncomputable def S_b93 : List e2_Sm := []
noncomputable def I_b93 : List e2_In := [(174, 1, e2x_174)]
set_option maxRecDepth 1000000 in
theorem ck_b93 : e2_run (e2_cal S_b93 I_b93 4000 1) (e2_fin rs_b93) e2x_184 (fun _ => false) (fun _ _ _ _ _ => false) 4000 (e2_seek e2x_184 0) (e2_al 4 as_b93) [] E_b93 f_b93 = true := by decide +kernel
set_option maxRecDepth 1000000 in
theorem co_b93 : e2_okSB E_b93.length as_b93 f_b93 rs_b93 = true := by decide +kernel
theorem cs_b93 (hen : en_ok) (l : Launch) : e2_smOk l 2 s_b93 := e2_con0 (H := 0) (n := 1) (C := evd_184) (S := S_b93) (I := I_b93) (fuel := 4000) [] hen ei_184 e2_fz (e2_fa ein_174 e2_fz) (by decide) co_b93 ex2_184 ck_b93
/-! b94 X10_signed -/
def as_b94 : List ev_V := [(2, 83, 0)]
def E_b94 : e2_E := [(2147483648, 2147583648, 0, 0), (2147483648, 2147483656, 1, 0), (2147483648, 2147485249, 2, 0)]
noncomputable def f_b94 : ev_H := (bn586 : e2_Q8)
noncomputable def q_b94_0 : ev_H := (bn586 : e2_Q8)
noncomputable def rs_b94 : e2_Rs := [((0, 0, 0), q_b94_0)]
noncomputable def s_b94 : e2_Sm := (184, as_b94, E_b94, f_b94, rs_b94)
noncomputable def S_b94 : List e2_Sm := []
noncomputable def I_b94 : List e2_In := [(174, 1, e2x_174)]
set_option maxRecDepth 1000000 in
theorem ck_b94 : e2_run (e2_cal S_b94 I_b94 4000 1) (e2_fin rs_b94) e2x_184 (fun _ => false) (fun _ _ _ _ _ => false) 4000 (e2_seek e2x_184 0) (e2_al 4 as_b94) [] E_b94 f_b94 = true := by decide +kernel
set_option maxRecDepth 1000000 in
theorem co_b94 : e2_okSB E_b94.length as_b94 f_b94 rs_b94 = true := by decide +kernel
theorem cs_b94 (hen : en_ok) (l : Launch) : e2_smOk l 2 s_b94 := e2_con0 (H := 0) (n := 1) (C := evd_184) (S := S_b94) (I := I_b94) (fuel := 4000) [] hen ei_184 e2_fz (e2_fa ein_174 e2_fz) (by decide) co_b94 ex2_184 ck_b94
/-! b95 X10_signed -/
def as_b95 : List ev_V := [(2, 83, 0)]
def E_b95 : e2_E := [(2147483648, 2147583648, 0, 0), (2147483648, 2147483656, 1, 0), (2147483648, 2147485249, 2, 0)]
noncomputable def f_b95 : ev_H := (bn460 : e2_Q8)
noncomputable def q_b95_0 : ev_H := (bn604 : e2_Q8)
noncomputable def q_b95_1 : ev_H := (bn468 : e2_Q8)
noncomputable def q_b95_2 : ev_H := (bn460 : e2_Q8)
noncomputable def q_b95_3 : ev_H := (bn606 : e2_Q8)
noncomputable def rs_b95 : e2_Rs := [((0, 0, 0), q_b95_0), ((11, 0, 4294967295), q_b95_1), ((11, 0, 4294967295), q_b95_2), ((0, 0, 0), q_b95_3)]
noncomputable def s_b95 : e2_Sm := (184, as_b95, E_b95, f_b95, rs_b95)
noncomputable def S_b95 : List e2_Sm := [s_b75]
noncomputable def I_b95 : List e2_In := [(170, 2, e2x_170), (173, 3, e2x_173), (174, 1, e2x_174), (178, 2, e2x_178), (180, 1, e2x_180)]
set_option maxRecDepth 1000000 in
theorem ck_b95 : e2_run (e2_cal S_b95 I_b95 4000 2) (e2_fin rs_b95) e2x_184 (fun _ => false) (fun _ _ _ _ _ => false) 4000 (e2_seek e2x_184 0) (e2_al 4 as_b95) [] E_b95 f_b95 = true := by decide +kernel
set_option maxRecDepth 1000000 in
theorem co_b95 : e2_okSB E_b95.length as_b95 f_b95 rs_b95 = true := by decide +kernel
theorem cs_b95 (hen : en_ok) (l : Launch) : e2_smOk l 6 s_b95 := e2_con0 (H := 3) (n := 2) (C := evd_184) (S := S_b95) (I := I_b95) (fuel := 4000) [] hen ei_184 (e2_fa (cs_b75 hen l) e2_fz) (e2_fa ein_170 (e2_fa ein_173 (e2_fa ein_174 (e2_fa ein_178 (e2_fa ein_180 e2_fz))))) (by decide) co_b95 ex2_184 ck_b95
/-! b96 X10_signed -/
def as_b96 : List ev_V := [(2, 83, 0)]
def E_b96 : e2_E := [(2147483648, 2147583648, 0, 0), (2147483648, 2147483656, 1, 0), (2147483648, 2147485249, 2, 0)]
noncomputable def f_b96 : ev_H := (bn574 : e2_Q8)
noncomputable def q_b96_0 : ev_H := (bn556 : e2_Q8)
noncomputable def rs_b96 : e2_Rs := [((0, 0, 0), q_b96_0)]
noncomputable def s_b96 : e2_Sm := (184, as_b96, E_b96, f_b96, rs_b96)
noncomputable def S_b96 : List e2_Sm := []
noncomputable def I_b96 : List e2_In := [(173, 3, e2x_173), (174, 1, e2x_174), (178, 2, e2x_178), (180, 1, e2x_180)]
set_option maxRecDepth 1000000 in
theorem ck_b96 : e2_run (e2_cal S_b96 I_b96 4000 2) (e2_fin rs_b96) e2x_184 (fun _ => false) (fun _ _ _ _ _ => false) 4000 (e2_seek e2x_184 0) (e2_al 4 as_b96) [] E_b96 f_b96 = true := by decide +kernel
set_option maxRecDepth 1000000 in
theorem co_b96 : e2_okSB E_b96.length as_b96 f_b96 rs_b96 = true := by decide +kernel
theorem cs_b96 (hen : en_ok) (l : Launch) : e2_smOk l 3 s_b96 := e2_con0 (H := 0) (n := 2) (C := evd_184) (S := S_b96) (I := I_b96) (fuel := 4000) [] hen ei_184 e2_fz (e2_fa ein_173 (e2_fa ein_174 (e2_fa ein_178 (e2_fa ein_180 e2_fz)))) (by decide) co_b96 ex2_184 ck_b96
/-! b97 X10_signed -/
def as_b97 : List ev_V := [(2, 83, 0)]
def E_b97 : e2_E := [(2147483648, 2147583648, 0, 0), (2147483648, 2147483656, 1, 0), (2147483648, 2147485249, 2, 0)]
noncomputable def f_b97 : ev_H := (bn556 : e2_Q8)
noncomputable def q_b97_0 : ev_H := (bn556 : e2_Q8)
noncomputable def rs_b97 : e2_Rs := [((0, 0, 0), q_b97_0)]
noncomputable def s_b97 : e2_Sm := (184, as_b97, E_b97, f_b97, rs_b97)
noncomputable def S_b97 : List e2_Sm := []
noncomputable def I_b97 : List e2_In := [(174, 1, e2x_174)]
set_option maxRecDepth 1000000 in
theorem ck_b97 : e2_run (e2_cal S_b97 I_b97 4000 1) (e2_fin rs_b97) e2x_184 (fun _ => false) (fun _ _ _ _ _ => false) 4000 (e2_seek e2x_184 0) (e2_al 4 as_b97) [] E_b97 f_b97 = true := by decide +kernel
set_option maxRecDepth 1000000 in
theorem co_b97 : e2_okSB E_b97.length as_b97 f_b97 rs_b97 = true := by decide +kernel
theorem cs_b97 (hen : en_ok) (l : Launch) : e2_smOk l 2 s_b97 := e2_con0 (H := 0) (n := 1) (C := evd_184) (S := S_b97) (I := I_b97) (fuel := 4000) [] hen ei_184 e2_fz (e2_fa ein_174 e2_fz) (by decide) co_b97 ex2_184 ck_b97
/-! b98 X10_readBarn -/
def as_b98 : List ev_V := [(2, 83, 0)]
def E_b98 : e2_E := [(2147483648, 2147583648, 0, 0), (2147483648, 2147483656, 1, 0), (2147483648, 2147485249, 2, 0)]
def bc178 : ev_C := (50, [(11, 2147483652, 2147483668), (11, 2147483648, 2147484647)])
def bn607 : e2_Q1 := (bc178, bc3)
def bn608 : e2_Q2 := (bn101, bn607)
def bn609 : e2_Q3 := (bn608, bn106)
def bn610 : e2_Q4 := (bn100, bn609)
def bn611 : e2_Q5 := (bn610, bn271)
def bn612 : e2_Q6 := (bn366, bn611)
def bn613 : e2_Q7 := (bn335, bn612)
def bn614 : e2_Q5 := (bn464, bn393)
def bn615 : e2_Q6 := (bn614, bn250)
def bn616 : e2_Q7 := (bn339, bn615)
def bn617 : e2_Q8 := (bn613, bn616)
noncomputable def f_b98 : ev_H := (bn617 : e2_Q8)
def bn618 : e2_Q5 := (bn552, bn393)
def bn619 : e2_Q6 := (bn618, bn250)
def bn620 : e2_Q7 := (bn339, bn619)
def bn621 : e2_Q8 := (bn613, bn620)
noncomputable def q_b98_0 : ev_H := (bn621 : e2_Q8)
noncomputable def rs_b98 : e2_Rs := [((9, 0, 0), q_b98_0)]
noncomputable def s_b98 : e2_Sm := (198, as_b98, E_b98, f_b98, rs_b98)
noncomputable def S_b98 : List e2_Sm := [s_b85]
noncomputable def I_b98 : List e2_In := [(174, 1, e2x_174)]
set_option maxRecDepth 1000000 in
theorem ck_b98 : e2_run (e2_cal S_b98 I_b98 4000 1) (e2_fin rs_b98) e2x_198 (fun _ => false) (fun _ _ _ _ _ => false) 4000 (e2_seek e2x_198 0) (e2_al 3 as_b98) [] E_b98 f_b98 = true := by decide +kernel
set_option maxRecDepth 1000000 in
theorem co_b98 : e2_okSB E_b98.length as_b98 f_b98 rs_b98 = true := by decide +kernel
theorem cs_b98 (hen : en_ok) (l : Launch) : e2_smOk l 5 s_b98 := e2_con0 (H := 3) (n := 1) (C := evd_198) (S := S_b98) (I := I_b98) (fuel := 4000) [] hen ei_198 (e2_fa (cs_b85 hen l) e2_fz) (e2_fa ein_174 e2_fz) (by decide) co_b98 ex2_198 ck_b98
/-! b99 X10_readBarn -/
def as_b99 : List ev_V := [(2, 83, 0)]
def E_b99 : e2_E := [(2147483648, 2147583648, 0, 0), (2147483648, 2147483656, 1, 0), (2147483648, 2147485249, 2, 0)]
def bn622 : e2_Q5 := (bn560, bn393)
def bn623 : e2_Q6 := (bn622, bn250)
def bn624 : e2_Q7 := (bn448, bn623)
def bn625 : e2_Q8 := (bn613, bn624)
noncomputable def f_b99 : ev_H := (bn625 : e2_Q8)
def bn626 : e2_Q5 := (bn568, bn393)
def bn627 : e2_Q6 := (bn626, bn250)
def bn628 : e2_Q7 := (bn448, bn627)
def bn629 : e2_Q8 := (bn613, bn628)
noncomputable def q_b99_0 : ev_H := (bn629 : e2_Q8)
def bn630 : e2_Q5 := (bn496, bn393)
def bn631 : e2_Q6 := (bn630, bn250)
def bn632 : e2_Q7 := (bn448, bn631)
def bn633 : e2_Q8 := (bn613, bn632)
noncomputable def q_b99_1 : ev_H := (bn633 : e2_Q8)
def bc179 : ev_C := (10, [(0, 0, 0), (2, 88, 0), (2, 115, 0), (2, 114, 0), (2, 86, 0), (2, 112, 0), (11, 2147483648, 2147483688), (2, 118, 0), (2, 120, 0), (2, 131, 0), (2, 91, 0), (11, 2147483648, 2147483668), (2, 123, 0), (0, 1, 0), (11, 2147483648, 2147485248), (2, 87, 0), (2, 84, 0), (2, 122, 0), (2, 100, 0), (2, 132, 0), (11, 2147483648, 2147483668), (11, 2147483648, 2147485248), (1, 0, 4294967296), (11, 2147483649, 2147483653), (11, 2147483648, 2147485248), (2, 93, 0), (2, 104, 0), (11, 2147483648, 2147483678), (2, 89, 0), (2, 92, 0), (2, 119, 0), (2, 90, 0), (2, 94, 0), (2, 103, 0), (11, 2147483648, 2147483688), (11, 2147483648, 2147549184), (13, 2, 2147485247), (11, 2147483648, 2147485248), (0, 0, 0), (11, 2147483648, 2147483668), (2, 85, 0), (11, 0, 4294967295), (5, 0, 0), (2, 95, 0), (2, 96, 0), (2, 97, 0), (2, 98, 0), (2, 99, 0), (2, 101, 0), (2, 102, 0), (2, 105, 0), (2, 106, 0), (2, 107, 0), (2, 108, 0), (2, 109, 0), (2, 110, 0), (2, 111, 0), (11, 2147483648, 2147484768), (11, 2147482048, 2147483655), (11, 2147483648, 2147483738), (11, 2147483648, 2147483678), (11, 0, 4294967295), (11, 0, 4294967295), (11, 0, 4294967295), (11, 0, 4294967295), (11, 0, 4294967295), (2, 113, 0), (2, 116, 0), (2, 117, 0), (2, 121, 0), (11, 0, 4294967295), (11, 0, 4294967295), (2, 124, 0), (2, 125, 0), (11, 0, 4294967295), (2, 126, 0), (2, 127, 0), (2, 128, 0), (2, 129, 0), (2, 130, 0)])
def bn634 : e2_Q1 := (bc179, bc3)
def bn635 : e2_Q2 := (bn196, bn634)
def bn636 : e2_Q3 := (bn635, bn201)
def bn637 : e2_Q4 := (bn195, bn636)
def bn638 : e2_Q5 := (bn637, bn393)
def bn639 : e2_Q6 := (bn638, bn250)
def bn640 : e2_Q7 := (bn448, bn639)
def bn641 : e2_Q8 := (bn613, bn640)
noncomputable def q_b99_2 : ev_H := (bn641 : e2_Q8)
def bn642 : e2_Q5 := (bn504, bn393)
def bn643 : e2_Q6 := (bn642, bn250)
def bn644 : e2_Q7 := (bn448, bn643)
def bn645 : e2_Q8 := (bn613, bn644)
noncomputable def q_b99_3 : ev_H := (bn645 : e2_Q8)
noncomputable def rs_b99 : e2_Rs := [((9, 0, 0), q_b99_0), ((9, 0, 0), q_b99_1), ((9, 0, 0), q_b99_2), ((9, 0, 0), q_b99_3)]
noncomputable def s_b99 : e2_Sm := (198, as_b99, E_b99, f_b99, rs_b99)
noncomputable def S_b99 : List e2_Sm := [s_b86]
noncomputable def I_b99 : List e2_In := [(173, 3, e2x_173), (174, 1, e2x_174)]
set_option maxRecDepth 1000000 in
theorem ck_b99 : e2_run (e2_cal S_b99 I_b99 4000 1) (e2_fin rs_b99) e2x_198 (fun _ => false) (fun _ _ _ _ _ => false) 4000 (e2_seek e2x_198 0) (e2_al 3 as_b99) [] E_b99 f_b99 = true := by decide +kernel
set_option maxRecDepth 1000000 in
theorem co_b99 : e2_okSB E_b99.length as_b99 f_b99 rs_b99 = true := by decide +kernel
theorem cs_b99 (hen : en_ok) (l : Launch) : e2_smOk l 8 s_b99 := e2_con0 (H := 6) (n := 1) (C := evd_198) (S := S_b99) (I := I_b99) (fuel := 4000) [] hen ei_198 (e2_fa (cs_b86 hen l) e2_fz) (e2_fa ein_173 (e2_fa ein_174 e2_fz)) (by decide) co_b99 ex2_198 ck_b99
/-! b100 X10_fresh -/
def as_b100 : List ev_V := [(2, 83, 0), (0, 4294967295, 0)]
def E_b100 : e2_E := [(2147483648, 2147583648, 0, 0), (2147483648, 2147483656, 1, 0), (2147483648, 2147485249, 2, 0)]
noncomputable def f_b100 : ev_H := (bn574 : e2_Q8)
noncomputable def q_b100_0 : ev_H := (bn556 : e2_Q8)
noncomputable def rs_b100 : e2_Rs := [((5, 0, 0), q_b100_0)]
noncomputable def s_b100 : e2_Sm := (191, as_b100, E_b100, f_b100, rs_b100)
noncomputable def S_b100 : List e2_Sm := []
noncomputable def I_b100 : List e2_In := [(173, 3, e2x_173), (174, 1, e2x_174), (180, 1, e2x_180)]
set_option maxRecDepth 1000000 in
theorem ck_b100 : e2_run (e2_cal S_b100 I_b100 4000 2) (e2_fin rs_b100) e2x_191 (fun _ => false) (fun _ _ _ _ _ => false) 4000 (e2_seek e2x_191 0) (e2_al 4 as_b100) [] E_b100 f_b100 = true := by decide +kernel
set_option maxRecDepth 1000000 in
theorem co_b100 : e2_okSB E_b100.length as_b100 f_b100 rs_b100 = true := by decide +kernel
theorem cs_b100 (hen : en_ok) (l : Launch) : e2_smOk l 3 s_b100 := e2_con0 (H := 0) (n := 2) (C := evd_191) (S := S_b100) (I := I_b100) (fuel := 4000) [] hen ei_191 e2_fz (e2_fa ein_173 (e2_fa ein_174 (e2_fa ein_180 e2_fz))) (by decide) co_b100 ex2_191 ck_b100
/-! b101 X10_here -/
def as_b101 : List ev_V := [(2, 83, 0), (2, 106, 0), (0, 8, 0), (11, 2147483648, 2147483656)]
def E_b101 : e2_E := [(2147483648, 2147583648, 0, 0), (2147483648, 2147483656, 1, 0), (2147483648, 2147485249, 2, 0)]
noncomputable def f_b101 : ev_H := (bn574 : e2_Q8)
noncomputable def q_b101_0 : ev_H := (bn574 : e2_Q8)
noncomputable def rs_b101 : e2_Rs := [((0, 4294967295, 0), q_b101_0)]
noncomputable def s_b101 : e2_Sm := (188, as_b101, E_b101, f_b101, rs_b101)
noncomputable def S_b101 : List e2_Sm := []
noncomputable def I_b101 : List e2_In := []
set_option maxRecDepth 1000000 in
theorem co_b101 : e2_okSB E_b101.length as_b101 f_b101 rs_b101 = true := by decide +kernel
def al_b101_0 : List ev_V := [(2, 83, 0), (2, 106, 0), (0, 8, 0), (11, 2147483648, 2147483656), (1, 3, 4294967296)]
def E_b101_0 : e2_E := [(2147483648, 2147583648, 0, 0), (2147483648, 2147483656, 1, 0), (2147483648, 2147485249, 2, 0), (2147483648, 2147483656, 3, 0)]
noncomputable def h_b101_0 : ev_H := (bn574 : e2_Q8)
noncomputable def cl_b101_e : List (Nat × e2_S) := [(3, e2_cutL (al_b101_0.set 4 (11, 2147483648, 2147483656)) 3 (E_b101_0.take 3) h_b101_0)]
set_option maxRecDepth 1000000 in
theorem ck_b101_e : e2_run (e2_cal S_b101 I_b101 4000 0) (e2_fin rs_b101) e2x_188 (e2_bpL cl_b101_e) (e2_cutA cl_b101_e) 4000 (e2_seek e2x_188 0) (e2_al 5 as_b101) [] E_b101 f_b101 = true := by decide +kernel
noncomputable def cl_b101_0 : List (Nat × e2_S) := [(3, e2_cutL (al_b101_0.set 4 (13, 11, 2147483656)) 3 (E_b101_0.take 3) h_b101_0)]
set_option maxRecDepth 1000000 in
theorem ck_b101_0 : e2_runM (e2_cal S_b101 I_b101 4000 0) (e2_fin rs_b101) e2x_188 (e2_bpL cl_b101_0) (e2_cutA cl_b101_0) 4000 (e2_seek e2x_188 3) al_b101_0 [] E_b101_0 h_b101_0 = true := by decide +kernel
set_option maxRecDepth 1000000 in
theorem ci_b101_0 : e2_idl 3 (al_b101_0.set 4 (9, 0, 0)) = true := by decide +kernel
set_option maxRecDepth 1000000 in
theorem cj_b101_0 : e2_idh 3 8 h_b101_0 = true := by decide +kernel
theorem cs_b101 (hen : en_ok) (l : Launch) : e2_smOk l 1 s_b101 := by
  refine e2_conG (H := 0) (n := 0) (C := evd_188) (S := S_b101) (I := I_b101) (fuel := 4000) hen ei_188 e2_fz e2_fz (by decide) co_b101 fun M d _ hC hcall p e R s m args below meth c Q D cA A ads r0 ha hl0 => ?_
  have L_0 : e2_gdM M p l e R s m args below meth c Q D cA A ads r0 3 al_b101_0 [] E_b101_0 h_b101_0 := by
    refine e2_indL (u := 3) (j := 4) (lo := 2147483648) (hi := 2147483656) (b := 3) (dd := 0) hl0 (by decide) rfl rfl (Or.inr ⟨rfl, rfl⟩) rfl ci_b101_0 cj_b101_0 ?_
    intro r_0 k_0 hk_0 hp_0 hs_0 hn_0
    have hl_0 : r_0.length ≤ 4 := hs_0.len rfl
    have ha_0 := ha.ext hp_0
    exact e2_fromM hen ha_0 hcall (e2_cutA_ok (e2_fa (fun al st E h hc => hn_0 al st E h hc) e2_fz)) (hC []) (X := e2x_188) ex2_188 3 ck_b101_0
  have EN_0 := e2_entL (u := 3) (j := 4) (lo := 2147483648) (hi := 2147483656) hl0 rfl rfl rfl ci_b101_0 cj_b101_0 L_0
  exact e2_from hen ha hcall (e2_cutA_ok (e2_fa (fun al st E h hc => EN_0 al st E h hc) e2_fz)) (hC []) (X := e2x_188) ex2_188 0 ck_b101_e
/-! b102 X10_glyphHere -/
def as_b102 : List ev_V := [(2, 83, 0)]
def E_b102 : e2_E := [(2147483648, 2147583648, 0, 0), (2147483648, 2147483656, 1, 0), (2147483648, 2147485249, 2, 0)]
def bn646 : e2_Q4 := (bn21, bn408)
def bn647 : e2_Q5 := (bn14, bn646)
def bn648 : e2_Q6 := (bn647, bn334)
def bn649 : e2_Q7 := (bn648, bn273)
def bn650 : e2_Q8 := (bn649, bn573)
noncomputable def f_b102 : ev_H := (bn650 : e2_Q8)
noncomputable def q_b102_0 : ev_H := (bn650 : e2_Q8)
noncomputable def rs_b102 : e2_Rs := [((0, 4294967295, 0), q_b102_0)]
noncomputable def s_b102 : e2_Sm := (190, as_b102, E_b102, f_b102, rs_b102)
noncomputable def S_b102 : List e2_Sm := [s_b101]
noncomputable def I_b102 : List e2_In := []
set_option maxRecDepth 1000000 in
theorem ck_b102 : e2_run (e2_cal S_b102 I_b102 4000 0) (e2_fin rs_b102) e2x_190 (fun _ => false) (fun _ _ _ _ _ => false) 4000 (e2_seek e2x_190 0) (e2_al 1 as_b102) [] E_b102 f_b102 = true := by decide +kernel
set_option maxRecDepth 1000000 in
theorem co_b102 : e2_okSB E_b102.length as_b102 f_b102 rs_b102 = true := by decide +kernel
theorem cs_b102 (hen : en_ok) (l : Launch) : e2_smOk l 2 s_b102 := e2_con0 (H := 1) (n := 0) (C := evd_190) (S := S_b102) (I := I_b102) (fuel := 4000) [] hen ei_190 (e2_fa (cs_b101 hen l) e2_fz) e2_fz (by decide) co_b102 ex2_190 ck_b102
/-! b103 X10_known -/
def as_b103 : List ev_V := [(2, 83, 0), (0, 4294967295, 0)]
def E_b103 : e2_E := [(2147483648, 2147583648, 0, 0), (2147483648, 2147483656, 1, 0), (2147483648, 2147485249, 2, 0)]
noncomputable def f_b103 : ev_H := (bn574 : e2_Q8)
noncomputable def q_b103_0 : ev_H := (bn556 : e2_Q8)
noncomputable def rs_b103 : e2_Rs := [((0, 0, 0), q_b103_0)]
noncomputable def s_b103 : e2_Sm := (192, as_b103, E_b103, f_b103, rs_b103)
noncomputable def S_b103 : List e2_Sm := []
noncomputable def I_b103 : List e2_In := [(173, 3, e2x_173), (174, 1, e2x_174), (180, 1, e2x_180)]
set_option maxRecDepth 1000000 in
theorem ck_b103 : e2_run (e2_cal S_b103 I_b103 4000 2) (e2_fin rs_b103) e2x_192 (fun _ => false) (fun _ _ _ _ _ => false) 4000 (e2_seek e2x_192 0) (e2_al 2 as_b103) [] E_b103 f_b103 = true := by decide +kernel
set_option maxRecDepth 1000000 in
theorem co_b103 : e2_okSB E_b103.length as_b103 f_b103 rs_b103 = true := by decide +kernel
theorem cs_b103 (hen : en_ok) (l : Launch) : e2_smOk l 3 s_b103 := e2_con0 (H := 0) (n := 2) (C := evd_192) (S := S_b103) (I := I_b103) (fuel := 4000) [] hen ei_192 e2_fz (e2_fa ein_173 (e2_fa ein_174 (e2_fa ein_180 e2_fz))) (by decide) co_b103 ex2_192 ck_b103
/-! b104 X10_known -/
def as_b104 : List ev_V := [(2, 83, 0), (11, 2147483647, 2147483651)]
def E_b104 : e2_E := [(2147483648, 2147583648, 0, 0), (2147483648, 2147483656, 1, 0), (2147483648, 2147485249, 2, 0)]
noncomputable def f_b104 : ev_H := (bn460 : e2_Q8)
noncomputable def q_b104_0 : ev_H := (bn604 : e2_Q8)
noncomputable def q_b104_1 : ev_H := (bn468 : e2_Q8)
noncomputable def q_b104_2 : ev_H := (bn460 : e2_Q8)
noncomputable def rs_b104 : e2_Rs := [((11, 2147483648, 2147483651), q_b104_0), ((11, 2147483648, 2147483651), q_b104_1), ((11, 2147483648, 2147483651), q_b104_2)]
noncomputable def s_b104 : e2_Sm := (192, as_b104, E_b104, f_b104, rs_b104)
noncomputable def S_b104 : List e2_Sm := [s_b75]
noncomputable def I_b104 : List e2_In := [(173, 3, e2x_173), (174, 1, e2x_174), (180, 1, e2x_180)]
set_option maxRecDepth 1000000 in
theorem ck_b104 : e2_run (e2_cal S_b104 I_b104 4000 2) (e2_fin rs_b104) e2x_192 (fun _ => false) (fun _ _ _ _ _ => false) 4000 (e2_seek e2x_192 0) (e2_al 2 as_b104) [] E_b104 f_b104 = true := by decide +kernel
set_option maxRecDepth 1000000 in
theorem co_b104 : e2_okSB E_b104.length as_b104 f_b104 rs_b104 = true := by decide +kernel
theorem cs_b104 (hen : en_ok) (l : Launch) : e2_smOk l 6 s_b104 := e2_con0 (H := 3) (n := 2) (C := evd_192) (S := S_b104) (I := I_b104) (fuel := 4000) [] hen ei_192 (e2_fa (cs_b75 hen l) e2_fz) (e2_fa ein_173 (e2_fa ein_174 (e2_fa ein_180 e2_fz))) (by decide) co_b104 ex2_192 ck_b104
/-! b105 X10_known -/
def as_b105 : List ev_V := [(2, 83, 0), (11, 2147483647, 2147483651)]
def E_b105 : e2_E := [(2147483648, 2147583648, 0, 0), (2147483648, 2147483656, 1, 0), (2147483648, 2147485249, 2, 0)]
noncomputable def f_b105 : ev_H := (bn594 : e2_Q8)
noncomputable def q_b105_0 : ev_H := (bn594 : e2_Q8)
noncomputable def rs_b105 : e2_Rs := [((0, 0, 0), q_b105_0)]
noncomputable def s_b105 : e2_Sm := (192, as_b105, E_b105, f_b105, rs_b105)
noncomputable def S_b105 : List e2_Sm := []
noncomputable def I_b105 : List e2_In := [(174, 1, e2x_174)]
set_option maxRecDepth 1000000 in
theorem ck_b105 : e2_run (e2_cal S_b105 I_b105 4000 1) (e2_fin rs_b105) e2x_192 (fun _ => false) (fun _ _ _ _ _ => false) 4000 (e2_seek e2x_192 0) (e2_al 2 as_b105) [] E_b105 f_b105 = true := by decide +kernel
set_option maxRecDepth 1000000 in
theorem co_b105 : e2_okSB E_b105.length as_b105 f_b105 rs_b105 = true := by decide +kernel
theorem cs_b105 (hen : en_ok) (l : Launch) : e2_smOk l 2 s_b105 := e2_con0 (H := 0) (n := 1) (C := evd_192) (S := S_b105) (I := I_b105) (fuel := 4000) [] hen ei_192 e2_fz (e2_fa ein_174 e2_fz) (by decide) co_b105 ex2_192 ck_b105
/-! b106 X10_known -/
def as_b106 : List ev_V := [(2, 83, 0), (0, 4294967295, 0)]
def E_b106 : e2_E := [(2147483648, 2147583648, 0, 0), (2147483648, 2147483656, 1, 0), (2147483648, 2147485249, 2, 0)]
noncomputable def f_b106 : ev_H := (bn586 : e2_Q8)
noncomputable def q_b106_0 : ev_H := (bn586 : e2_Q8)
noncomputable def rs_b106 : e2_Rs := [((0, 0, 0), q_b106_0)]
noncomputable def s_b106 : e2_Sm := (192, as_b106, E_b106, f_b106, rs_b106)
noncomputable def S_b106 : List e2_Sm := []
noncomputable def I_b106 : List e2_In := [(174, 1, e2x_174)]
set_option maxRecDepth 1000000 in
theorem ck_b106 : e2_run (e2_cal S_b106 I_b106 4000 1) (e2_fin rs_b106) e2x_192 (fun _ => false) (fun _ _ _ _ _ => false) 4000 (e2_seek e2x_192 0) (e2_al 2 as_b106) [] E_b106 f_b106 = true := by decide +kernel
set_option maxRecDepth 1000000 in
theorem co_b106 : e2_okSB E_b106.length as_b106 f_b106 rs_b106 = true := by decide +kernel
theorem cs_b106 (hen : en_ok) (l : Launch) : e2_smOk l 2 s_b106 := e2_con0 (H := 0) (n := 1) (C := evd_192) (S := S_b106) (I := I_b106) (fuel := 4000) [] hen ei_192 e2_fz (e2_fa ein_174 e2_fz) (by decide) co_b106 ex2_192 ck_b106
/-! b107 X10_here -/
def as_b107 : List ev_V := [(2, 83, 0), (2, 105, 0), (0, 4, 0), (11, 2147483648, 2147483652)]
def E_b107 : e2_E := [(2147483648, 2147583648, 0, 0), (2147483648, 2147483656, 1, 0), (2147483648, 2147485249, 2, 0)]
noncomputable def f_b107 : ev_H := (bn574 : e2_Q8)
noncomputable def q_b107_0 : ev_H := (bn574 : e2_Q8)
noncomputable def rs_b107 : e2_Rs := [((0, 4294967295, 0), q_b107_0)]
noncomputable def s_b107 : e2_Sm := (188, as_b107, E_b107, f_b107, rs_b107)
noncomputable def S_b107 : List e2_Sm := []
noncomputable def I_b107 : List e2_In := []
set_option maxRecDepth 1000000 in
theorem co_b107 : e2_okSB E_b107.length as_b107 f_b107 rs_b107 = true := by decide +kernel
def al_b107_0 : List ev_V := [(2, 83, 0), (2, 105, 0), (0, 4, 0), (11, 2147483648, 2147483652), (1, 3, 4294967296)]
def E_b107_0 : e2_E := [(2147483648, 2147583648, 0, 0), (2147483648, 2147483656, 1, 0), (2147483648, 2147485249, 2, 0), (2147483648, 2147483652, 3, 0)]
noncomputable def h_b107_0 : ev_H := (bn574 : e2_Q8)
noncomputable def cl_b107_e : List (Nat × e2_S) := [(3, e2_cutL (al_b107_0.set 4 (11, 2147483648, 2147483652)) 3 (E_b107_0.take 3) h_b107_0)]
set_option maxRecDepth 1000000 in
theorem ck_b107_e : e2_run (e2_cal S_b107 I_b107 4000 0) (e2_fin rs_b107) e2x_188 (e2_bpL cl_b107_e) (e2_cutA cl_b107_e) 4000 (e2_seek e2x_188 0) (e2_al 5 as_b107) [] E_b107 f_b107 = true := by decide +kernel
noncomputable def cl_b107_0 : List (Nat × e2_S) := [(3, e2_cutL (al_b107_0.set 4 (13, 11, 2147483652)) 3 (E_b107_0.take 3) h_b107_0)]
set_option maxRecDepth 1000000 in
theorem ck_b107_0 : e2_runM (e2_cal S_b107 I_b107 4000 0) (e2_fin rs_b107) e2x_188 (e2_bpL cl_b107_0) (e2_cutA cl_b107_0) 4000 (e2_seek e2x_188 3) al_b107_0 [] E_b107_0 h_b107_0 = true := by decide +kernel
set_option maxRecDepth 1000000 in
theorem ci_b107_0 : e2_idl 3 (al_b107_0.set 4 (9, 0, 0)) = true := by decide +kernel
set_option maxRecDepth 1000000 in
theorem cj_b107_0 : e2_idh 3 8 h_b107_0 = true := by decide +kernel
theorem cs_b107 (hen : en_ok) (l : Launch) : e2_smOk l 1 s_b107 := by
  refine e2_conG (H := 0) (n := 0) (C := evd_188) (S := S_b107) (I := I_b107) (fuel := 4000) hen ei_188 e2_fz e2_fz (by decide) co_b107 fun M d _ hC hcall p e R s m args below meth c Q D cA A ads r0 ha hl0 => ?_
  have L_0 : e2_gdM M p l e R s m args below meth c Q D cA A ads r0 3 al_b107_0 [] E_b107_0 h_b107_0 := by
    refine e2_indL (u := 3) (j := 4) (lo := 2147483648) (hi := 2147483652) (b := 3) (dd := 0) hl0 (by decide) rfl rfl (Or.inr ⟨rfl, rfl⟩) rfl ci_b107_0 cj_b107_0 ?_
    intro r_0 k_0 hk_0 hp_0 hs_0 hn_0
    have hl_0 : r_0.length ≤ 4 := hs_0.len rfl
    have ha_0 := ha.ext hp_0
    exact e2_fromM hen ha_0 hcall (e2_cutA_ok (e2_fa (fun al st E h hc => hn_0 al st E h hc) e2_fz)) (hC []) (X := e2x_188) ex2_188 3 ck_b107_0
  have EN_0 := e2_entL (u := 3) (j := 4) (lo := 2147483648) (hi := 2147483652) hl0 rfl rfl rfl ci_b107_0 cj_b107_0 L_0
  exact e2_from hen ha hcall (e2_cutA_ok (e2_fa (fun al st E h hc => EN_0 al st E h hc) e2_fz)) (hC []) (X := e2x_188) ex2_188 0 ck_b107_e
/-! b108 X10_thingHere -/
def as_b108 : List ev_V := [(2, 83, 0)]
def E_b108 : e2_E := [(2147483648, 2147583648, 0, 0), (2147483648, 2147483656, 1, 0), (2147483648, 2147485249, 2, 0)]
def bn651 : e2_Q5 := (bn434, bn249)
def bn652 : e2_Q6 := (bn465, bn651)
def bn653 : e2_Q7 := (bn339, bn652)
def bn654 : e2_Q8 := (bn336, bn653)
noncomputable def f_b108 : ev_H := (bn654 : e2_Q8)
noncomputable def q_b108_0 : ev_H := (bn654 : e2_Q8)
noncomputable def rs_b108 : e2_Rs := [((0, 4294967295, 0), q_b108_0)]
noncomputable def s_b108 : e2_Sm := (189, as_b108, E_b108, f_b108, rs_b108)
noncomputable def S_b108 : List e2_Sm := [s_b107]
noncomputable def I_b108 : List e2_In := []
set_option maxRecDepth 1000000 in
theorem ck_b108 : e2_run (e2_cal S_b108 I_b108 4000 0) (e2_fin rs_b108) e2x_189 (fun _ => false) (fun _ _ _ _ _ => false) 4000 (e2_seek e2x_189 0) (e2_al 1 as_b108) [] E_b108 f_b108 = true := by decide +kernel
set_option maxRecDepth 1000000 in
theorem co_b108 : e2_okSB E_b108.length as_b108 f_b108 rs_b108 = true := by decide +kernel
theorem cs_b108 (hen : en_ok) (l : Launch) : e2_smOk l 2 s_b108 := e2_con0 (H := 1) (n := 0) (C := evd_189) (S := S_b108) (I := I_b108) (fuel := 4000) [] hen ei_189 (e2_fa (cs_b107 hen l) e2_fz) e2_fz (by decide) co_b108 ex2_189 ck_b108
/-! b109 X10_here -/
def as_b109 : List ev_V := [(2, 83, 0), (2, 105, 0), (0, 4, 0), (11, 2147483648, 2147483652)]
def E_b109 : e2_E := [(2147483648, 2147583648, 0, 0), (2147483648, 2147483656, 1, 0), (2147483648, 2147485249, 2, 0)]
def bc180 : ev_C := (53, [(0, 8, 0)])
def bn655 : e2_Q1 := (bc180, bc3)
def bn656 : e2_Q2 := (bn145, bn655)
def bn657 : e2_Q3 := (bn144, bn656)
def bn658 : e2_Q4 := (bn657, bn155)
def bn659 : e2_Q5 := (bn141, bn658)
def bn660 : e2_Q6 := (bn659, bn338)
def bn661 : e2_Q7 := (bn660, bn458)
def bn662 : e2_Q8 := (bn336, bn661)
noncomputable def f_b109 : ev_H := (bn662 : e2_Q8)
noncomputable def q_b109_0 : ev_H := (bn662 : e2_Q8)
noncomputable def rs_b109 : e2_Rs := [((11, 2147483647, 2147483651), q_b109_0)]
noncomputable def s_b109 : e2_Sm := (188, as_b109, E_b109, f_b109, rs_b109)
noncomputable def S_b109 : List e2_Sm := []
noncomputable def I_b109 : List e2_In := []
set_option maxRecDepth 1000000 in
theorem co_b109 : e2_okSB E_b109.length as_b109 f_b109 rs_b109 = true := by decide +kernel
def al_b109_0 : List ev_V := [(2, 83, 0), (2, 105, 0), (0, 4, 0), (11, 2147483648, 2147483652), (1, 3, 4294967296)]
def E_b109_0 : e2_E := [(2147483648, 2147583648, 0, 0), (2147483648, 2147483656, 1, 0), (2147483648, 2147485249, 2, 0), (2147483648, 2147483652, 3, 0)]
noncomputable def h_b109_0 : ev_H := (bn662 : e2_Q8)
noncomputable def cl_b109_e : List (Nat × e2_S) := [(3, e2_cutL (al_b109_0.set 4 (11, 2147483648, 2147483652)) 3 (E_b109_0.take 3) h_b109_0)]
set_option maxRecDepth 1000000 in
theorem ck_b109_e : e2_run (e2_cal S_b109 I_b109 4000 0) (e2_fin rs_b109) e2x_188 (e2_bpL cl_b109_e) (e2_cutA cl_b109_e) 4000 (e2_seek e2x_188 0) (e2_al 5 as_b109) [] E_b109 f_b109 = true := by decide +kernel
noncomputable def cl_b109_0 : List (Nat × e2_S) := [(3, e2_cutL (al_b109_0.set 4 (13, 11, 2147483652)) 3 (E_b109_0.take 3) h_b109_0)]
set_option maxRecDepth 1000000 in
theorem ck_b109_0 : e2_runM (e2_cal S_b109 I_b109 4000 0) (e2_fin rs_b109) e2x_188 (e2_bpL cl_b109_0) (e2_cutA cl_b109_0) 4000 (e2_seek e2x_188 3) al_b109_0 [] E_b109_0 h_b109_0 = true := by decide +kernel
set_option maxRecDepth 1000000 in
theorem ci_b109_0 : e2_idl 3 (al_b109_0.set 4 (9, 0, 0)) = true := by decide +kernel
set_option maxRecDepth 1000000 in
theorem cj_b109_0 : e2_idh 3 8 h_b109_0 = true := by decide +kernel
theorem cs_b109 (hen : en_ok) (l : Launch) : e2_smOk l 1 s_b109 := by
  refine e2_conG (H := 0) (n := 0) (C := evd_188) (S := S_b109) (I := I_b109) (fuel := 4000) hen ei_188 e2_fz e2_fz (by decide) co_b109 fun M d _ hC hcall p e R s m args below meth c Q D cA A ads r0 ha hl0 => ?_
  have L_0 : e2_gdM M p l e R s m args below meth c Q D cA A ads r0 3 al_b109_0 [] E_b109_0 h_b109_0 := by
    refine e2_indL (u := 3) (j := 4) (lo := 2147483648) (hi := 2147483652) (b := 3) (dd := 0) hl0 (by decide) rfl rfl (Or.inr ⟨rfl, rfl⟩) rfl ci_b109_0 cj_b109_0 ?_
    intro r_0 k_0 hk_0 hp_0 hs_0 hn_0
    have hl_0 : r_0.length ≤ 4 := hs_0.len rfl
    have ha_0 := ha.ext hp_0
    exact e2_fromM hen ha_0 hcall (e2_cutA_ok (e2_fa (fun al st E h hc => hn_0 al st E h hc) e2_fz)) (hC []) (X := e2x_188) ex2_188 3 ck_b109_0
  have EN_0 := e2_entL (u := 3) (j := 4) (lo := 2147483648) (hi := 2147483652) hl0 rfl rfl rfl ci_b109_0 cj_b109_0 L_0
  exact e2_from hen ha hcall (e2_cutA_ok (e2_fa (fun al st E h hc => EN_0 al st E h hc) e2_fz)) (hC []) (X := e2x_188) ex2_188 0 ck_b109_e
/-! b110 X10_thingHere -/
def as_b110 : List ev_V := [(2, 83, 0)]
def E_b110 : e2_E := [(2147483648, 2147583648, 0, 0), (2147483648, 2147483656, 1, 0), (2147483648, 2147485249, 2, 0)]
def bn663 : e2_Q6 := (bn457, bn651)
def bn664 : e2_Q7 := (bn660, bn663)
def bn665 : e2_Q8 := (bn336, bn664)
noncomputable def f_b110 : ev_H := (bn665 : e2_Q8)
noncomputable def q_b110_0 : ev_H := (bn665 : e2_Q8)
noncomputable def rs_b110 : e2_Rs := [((11, 2147483647, 2147483651), q_b110_0)]
noncomputable def s_b110 : e2_Sm := (189, as_b110, E_b110, f_b110, rs_b110)
noncomputable def S_b110 : List e2_Sm := [s_b109]
noncomputable def I_b110 : List e2_In := []
set_option maxRecDepth 1000000 in
theorem ck_b110 : e2_run (e2_cal S_b110 I_b110 4000 0) (e2_fin rs_b110) e2x_189 (fun _ => false) (fun _ _ _ _ _ => false) 4000 (e2_seek e2x_189 0) (e2_al 1 as_b110) [] E_b110 f_b110 = true := by decide +kernel
set_option maxRecDepth 1000000 in
theorem co_b110 : e2_okSB E_b110.length as_b110 f_b110 rs_b110 = true := by decide +kernel
theorem cs_b110 (hen : en_ok) (l : Launch) : e2_smOk l 2 s_b110 := e2_con0 (H := 1) (n := 0) (C := evd_189) (S := S_b110) (I := I_b110) (fuel := 4000) [] hen ei_189 (e2_fa (cs_b109 hen l) e2_fz) e2_fz (by decide) co_b110 ex2_189 ck_b110
/-! b111 X10_here -/
def as_b111 : List ev_V := [(2, 83, 0), (2, 105, 0), (0, 4, 0), (11, 2147483648, 2147483652)]
def E_b111 : e2_E := [(2147483648, 2147583648, 0, 0), (2147483648, 2147483656, 1, 0), (2147483648, 2147485249, 2, 0)]
def bn666 : e2_Q7 := (bn660, bn592)
def bn667 : e2_Q8 := (bn336, bn666)
noncomputable def f_b111 : ev_H := (bn667 : e2_Q8)
noncomputable def q_b111_0 : ev_H := (bn667 : e2_Q8)
noncomputable def rs_b111 : e2_Rs := [((11, 2147483647, 2147483651), q_b111_0)]
noncomputable def s_b111 : e2_Sm := (188, as_b111, E_b111, f_b111, rs_b111)
noncomputable def S_b111 : List e2_Sm := []
noncomputable def I_b111 : List e2_In := []
set_option maxRecDepth 1000000 in
theorem co_b111 : e2_okSB E_b111.length as_b111 f_b111 rs_b111 = true := by decide +kernel
def al_b111_0 : List ev_V := [(2, 83, 0), (2, 105, 0), (0, 4, 0), (11, 2147483648, 2147483652), (1, 3, 4294967296)]
def E_b111_0 : e2_E := [(2147483648, 2147583648, 0, 0), (2147483648, 2147483656, 1, 0), (2147483648, 2147485249, 2, 0), (2147483648, 2147483652, 3, 0)]
noncomputable def h_b111_0 : ev_H := (bn667 : e2_Q8)
noncomputable def cl_b111_e : List (Nat × e2_S) := [(3, e2_cutL (al_b111_0.set 4 (11, 2147483648, 2147483652)) 3 (E_b111_0.take 3) h_b111_0)]
set_option maxRecDepth 1000000 in
theorem ck_b111_e : e2_run (e2_cal S_b111 I_b111 4000 0) (e2_fin rs_b111) e2x_188 (e2_bpL cl_b111_e) (e2_cutA cl_b111_e) 4000 (e2_seek e2x_188 0) (e2_al 5 as_b111) [] E_b111 f_b111 = true := by decide +kernel
noncomputable def cl_b111_0 : List (Nat × e2_S) := [(3, e2_cutL (al_b111_0.set 4 (13, 11, 2147483652)) 3 (E_b111_0.take 3) h_b111_0)]
set_option maxRecDepth 1000000 in
theorem ck_b111_0 : e2_runM (e2_cal S_b111 I_b111 4000 0) (e2_fin rs_b111) e2x_188 (e2_bpL cl_b111_0) (e2_cutA cl_b111_0) 4000 (e2_seek e2x_188 3) al_b111_0 [] E_b111_0 h_b111_0 = true := by decide +kernel
set_option maxRecDepth 1000000 in
theorem ci_b111_0 : e2_idl 3 (al_b111_0.set 4 (9, 0, 0)) = true := by decide +kernel
set_option maxRecDepth 1000000 in
theorem cj_b111_0 : e2_idh 3 8 h_b111_0 = true := by decide +kernel
theorem cs_b111 (hen : en_ok) (l : Launch) : e2_smOk l 1 s_b111 := by
  refine e2_conG (H := 0) (n := 0) (C := evd_188) (S := S_b111) (I := I_b111) (fuel := 4000) hen ei_188 e2_fz e2_fz (by decide) co_b111 fun M d _ hC hcall p e R s m args below meth c Q D cA A ads r0 ha hl0 => ?_
  have L_0 : e2_gdM M p l e R s m args below meth c Q D cA A ads r0 3 al_b111_0 [] E_b111_0 h_b111_0 := by
    refine e2_indL (u := 3) (j := 4) (lo := 2147483648) (hi := 2147483652) (b := 3) (dd := 0) hl0 (by decide) rfl rfl (Or.inr ⟨rfl, rfl⟩) rfl ci_b111_0 cj_b111_0 ?_
    intro r_0 k_0 hk_0 hp_0 hs_0 hn_0
    have hl_0 : r_0.length ≤ 4 := hs_0.len rfl
    have ha_0 := ha.ext hp_0
    exact e2_fromM hen ha_0 hcall (e2_cutA_ok (e2_fa (fun al st E h hc => hn_0 al st E h hc) e2_fz)) (hC []) (X := e2x_188) ex2_188 3 ck_b111_0
  have EN_0 := e2_entL (u := 3) (j := 4) (lo := 2147483648) (hi := 2147483652) hl0 rfl rfl rfl ci_b111_0 cj_b111_0 L_0
  exact e2_from hen ha hcall (e2_cutA_ok (e2_fa (fun al st E h hc => EN_0 al st E h hc) e2_fz)) (hC []) (X := e2x_188) ex2_188 0 ck_b111_e
/-! b112 X10_thingHere -/
def as_b112 : List ev_V := [(2, 83, 0)]
def E_b112 : e2_E := [(2147483648, 2147583648, 0, 0), (2147483648, 2147483656, 1, 0), (2147483648, 2147485249, 2, 0)]
def bn668 : e2_Q6 := (bn591, bn651)
def bn669 : e2_Q7 := (bn660, bn668)
def bn670 : e2_Q8 := (bn336, bn669)
noncomputable def f_b112 : ev_H := (bn670 : e2_Q8)
noncomputable def q_b112_0 : ev_H := (bn670 : e2_Q8)
noncomputable def rs_b112 : e2_Rs := [((11, 2147483647, 2147483651), q_b112_0)]
noncomputable def s_b112 : e2_Sm := (189, as_b112, E_b112, f_b112, rs_b112)
noncomputable def S_b112 : List e2_Sm := [s_b111]
noncomputable def I_b112 : List e2_In := []
set_option maxRecDepth 1000000 in
theorem ck_b112 : e2_run (e2_cal S_b112 I_b112 4000 0) (e2_fin rs_b112) e2x_189 (fun _ => false) (fun _ _ _ _ _ => false) 4000 (e2_seek e2x_189 0) (e2_al 1 as_b112) [] E_b112 f_b112 = true := by decide +kernel
set_option maxRecDepth 1000000 in
theorem co_b112 : e2_okSB E_b112.length as_b112 f_b112 rs_b112 = true := by decide +kernel
theorem cs_b112 (hen : en_ok) (l : Launch) : e2_smOk l 2 s_b112 := e2_con0 (H := 1) (n := 0) (C := evd_189) (S := S_b112) (I := I_b112) (fuel := 4000) [] hen ei_189 (e2_fa (cs_b111 hen l) e2_fz) e2_fz (by decide) co_b112 ex2_189 ck_b112
/-! b113 X10_here -/
def as_b113 : List ev_V := [(2, 83, 0), (2, 105, 0), (0, 4, 0), (11, 2147483648, 2147483652)]
def E_b113 : e2_E := [(2147483648, 2147583648, 0, 0), (2147483648, 2147483656, 1, 0), (2147483648, 2147485249, 2, 0)]
def bn671 : e2_Q7 := (bn660, bn584)
def bn672 : e2_Q8 := (bn336, bn671)
noncomputable def f_b113 : ev_H := (bn672 : e2_Q8)
noncomputable def q_b113_0 : ev_H := (bn667 : e2_Q8)
noncomputable def q_b113_1 : ev_H := (bn672 : e2_Q8)
noncomputable def rs_b113 : e2_Rs := [((11, 2147483648, 2147483651), q_b113_0), ((0, 4294967295, 0), q_b113_1)]
noncomputable def s_b113 : e2_Sm := (188, as_b113, E_b113, f_b113, rs_b113)
noncomputable def S_b113 : List e2_Sm := []
noncomputable def I_b113 : List e2_In := []
set_option maxRecDepth 1000000 in
theorem co_b113 : e2_okSB E_b113.length as_b113 f_b113 rs_b113 = true := by decide +kernel
def al_b113_0 : List ev_V := [(2, 83, 0), (2, 105, 0), (0, 4, 0), (11, 2147483648, 2147483652), (1, 3, 4294967296)]
def E_b113_0 : e2_E := [(2147483648, 2147583648, 0, 0), (2147483648, 2147483656, 1, 0), (2147483648, 2147485249, 2, 0), (2147483648, 2147483652, 3, 0)]
noncomputable def h_b113_0 : ev_H := (bn672 : e2_Q8)
noncomputable def cl_b113_e : List (Nat × e2_S) := [(3, e2_cutL (al_b113_0.set 4 (11, 2147483648, 2147483652)) 3 (E_b113_0.take 3) h_b113_0)]
set_option maxRecDepth 1000000 in
theorem ck_b113_e : e2_run (e2_cal S_b113 I_b113 4000 0) (e2_fin rs_b113) e2x_188 (e2_bpL cl_b113_e) (e2_cutA cl_b113_e) 4000 (e2_seek e2x_188 0) (e2_al 5 as_b113) [] E_b113 f_b113 = true := by decide +kernel
noncomputable def cl_b113_0 : List (Nat × e2_S) := [(3, e2_cutL (al_b113_0.set 4 (13, 11, 2147483652)) 3 (E_b113_0.take 3) h_b113_0)]
set_option maxRecDepth 1000000 in
theorem ck_b113_0 : e2_runM (e2_cal S_b113 I_b113 4000 0) (e2_fin rs_b113) e2x_188 (e2_bpL cl_b113_0) (e2_cutA cl_b113_0) 4000 (e2_seek e2x_188 3) al_b113_0 [] E_b113_0 h_b113_0 = true := by decide +kernel
set_option maxRecDepth 1000000 in
theorem ci_b113_0 : e2_idl 3 (al_b113_0.set 4 (9, 0, 0)) = true := by decide +kernel
set_option maxRecDepth 1000000 in
theorem cj_b113_0 : e2_idh 3 8 h_b113_0 = true := by decide +kernel
theorem cs_b113 (hen : en_ok) (l : Launch) : e2_smOk l 1 s_b113 := by
  refine e2_conG (H := 0) (n := 0) (C := evd_188) (S := S_b113) (I := I_b113) (fuel := 4000) hen ei_188 e2_fz e2_fz (by decide) co_b113 fun M d _ hC hcall p e R s m args below meth c Q D cA A ads r0 ha hl0 => ?_
  have L_0 : e2_gdM M p l e R s m args below meth c Q D cA A ads r0 3 al_b113_0 [] E_b113_0 h_b113_0 := by
    refine e2_indL (u := 3) (j := 4) (lo := 2147483648) (hi := 2147483652) (b := 3) (dd := 0) hl0 (by decide) rfl rfl (Or.inr ⟨rfl, rfl⟩) rfl ci_b113_0 cj_b113_0 ?_
    intro r_0 k_0 hk_0 hp_0 hs_0 hn_0
    have hl_0 : r_0.length ≤ 4 := hs_0.len rfl
    have ha_0 := ha.ext hp_0
    exact e2_fromM hen ha_0 hcall (e2_cutA_ok (e2_fa (fun al st E h hc => hn_0 al st E h hc) e2_fz)) (hC []) (X := e2x_188) ex2_188 3 ck_b113_0
  have EN_0 := e2_entL (u := 3) (j := 4) (lo := 2147483648) (hi := 2147483652) hl0 rfl rfl rfl ci_b113_0 cj_b113_0 L_0
  exact e2_from hen ha hcall (e2_cutA_ok (e2_fa (fun al st E h hc => EN_0 al st E h hc) e2_fz)) (hC []) (X := e2x_188) ex2_188 0 ck_b113_e
/-! b114 X10_thingHere -/
def as_b114 : List ev_V := [(2, 83, 0)]
def E_b114 : e2_E := [(2147483648, 2147583648, 0, 0), (2147483648, 2147483656, 1, 0), (2147483648, 2147485249, 2, 0)]
def bn673 : e2_Q6 := (bn583, bn651)
def bn674 : e2_Q7 := (bn660, bn673)
def bn675 : e2_Q8 := (bn336, bn674)
noncomputable def f_b114 : ev_H := (bn675 : e2_Q8)
noncomputable def q_b114_0 : ev_H := (bn675 : e2_Q8)
noncomputable def q_b114_1 : ev_H := (bn670 : e2_Q8)
noncomputable def rs_b114 : e2_Rs := [((0, 4294967295, 0), q_b114_0), ((11, 2147483648, 2147483651), q_b114_1)]
noncomputable def s_b114 : e2_Sm := (189, as_b114, E_b114, f_b114, rs_b114)
noncomputable def S_b114 : List e2_Sm := [s_b113]
noncomputable def I_b114 : List e2_In := []
set_option maxRecDepth 1000000 in
theorem ck_b114 : e2_run (e2_cal S_b114 I_b114 4000 0) (e2_fin rs_b114) e2x_189 (fun _ => false) (fun _ _ _ _ _ => false) 4000 (e2_seek e2x_189 0) (e2_al 1 as_b114) [] E_b114 f_b114 = true := by decide +kernel
set_option maxRecDepth 1000000 in
theorem co_b114 : e2_okSB E_b114.length as_b114 f_b114 rs_b114 = true := by decide +kernel
theorem cs_b114 (hen : en_ok) (l : Launch) : e2_smOk l 2 s_b114 := e2_con0 (H := 1) (n := 0) (C := evd_189) (S := S_b114) (I := I_b114) (fuel := 4000) [] hen ei_189 (e2_fa (cs_b113 hen l) e2_fz) e2_fz (by decide) co_b114 ex2_189 ck_b114
/-! b115 X10_readGlyph -/
def as_b115 : List ev_V := [(2, 83, 0)]
def E_b115 : e2_E := [(2147483648, 2147583648, 0, 0), (2147483648, 2147483656, 1, 0), (2147483648, 2147485249, 2, 0)]
def bn676 : e2_Q5 := (bn257, bn646)
def bn677 : e2_Q6 := (bn676, bn266)
def bc181 : ev_C := (50, [(11, 2147483648, 2147483651), (11, 2147483648, 2147483651), (11, 2147483648, 2147483651), (11, 2147483648, 2147483651), (11, 2147483648, 2147483651), (11, 2147483648, 2147483651), (11, 2147483648, 2147483651), (11, 2147483648, 2147483651), (11, 2147483648, 2147483651), (11, 2147483648, 2147483651), (11, 2147483648, 2147483651), (11, 2147483648, 2147483651), (11, 2147483648, 2147483651), (11, 2147483648, 2147483651), (11, 2147483648, 2147483651), (11, 2147483648, 2147483651)])
def bn678 : e2_Q1 := (bc181, bc3)
def bn679 : e2_Q2 := (bn66, bn678)
def bn680 : e2_Q3 := (bn65, bn679)
def bn681 : e2_Q4 := (bn680, bn76)
def bc182 : ev_C := (53, [(0, 16, 0)])
def bn682 : e2_Q1 := (bc182, bc3)
def bn683 : e2_Q2 := (bn81, bn682)
def bn684 : e2_Q3 := (bn80, bn683)
def bn685 : e2_Q4 := (bn684, bn91)
def bn686 : e2_Q5 := (bn681, bn685)
def bn687 : e2_Q6 := (bn686, bn272)
def bn688 : e2_Q7 := (bn677, bn687)
def bn689 : e2_Q5 := (bn278, bn658)
def bn690 : e2_Q6 := (bn689, bn284)
def bn691 : e2_Q2 := (bn192, bn254)
def bn692 : e2_Q3 := (bn191, bn691)
def bn693 : e2_Q4 := (bn692, bn463)
def bn694 : e2_Q5 := (bn693, bn289)
def bn695 : e2_Q6 := (bn694, bn651)
def bn696 : e2_Q7 := (bn690, bn695)
def bn697 : e2_Q8 := (bn688, bn696)
noncomputable def f_b115 : ev_H := (bn697 : e2_Q8)
def bc183 : ev_C := (50, [(1, 1, 4294967296), (0, 1, 0)])
def bn698 : e2_Q1 := (bc183, bc3)
def bn699 : e2_Q2 := (bn22, bn698)
def bn700 : e2_Q3 := (bn699, bn27)
def bn701 : e2_Q4 := (bn21, bn700)
def bn702 : e2_Q5 := (bn257, bn701)
def bn703 : e2_Q6 := (bn702, bn266)
def bn704 : e2_Q7 := (bn703, bn687)
def bn705 : e2_Q4 := (bn692, bn589)
def bn706 : e2_Q5 := (bn705, bn289)
def bn707 : e2_Q6 := (bn706, bn651)
def bn708 : e2_Q7 := (bn690, bn707)
def bn709 : e2_Q8 := (bn704, bn708)
noncomputable def q_b115_0 : ev_H := (bn709 : e2_Q8)
def bn710 : e2_Q4 := (bn692, bn581)
def bn711 : e2_Q5 := (bn710, bn289)
def bn712 : e2_Q6 := (bn711, bn651)
def bn713 : e2_Q7 := (bn690, bn712)
def bn714 : e2_Q8 := (bn704, bn713)
noncomputable def q_b115_1 : ev_H := (bn714 : e2_Q8)
def bn715 : e2_Q4 := (bn692, bn551)
def bn716 : e2_Q5 := (bn715, bn289)
def bn717 : e2_Q6 := (bn716, bn651)
def bn718 : e2_Q7 := (bn690, bn717)
def bn719 : e2_Q8 := (bn704, bn718)
noncomputable def q_b115_2 : ev_H := (bn719 : e2_Q8)
def bn720 : e2_Q4 := (bn692, bn455)
def bn721 : e2_Q5 := (bn720, bn289)
def bn722 : e2_Q6 := (bn721, bn651)
def bn723 : e2_Q7 := (bn690, bn722)
def bn724 : e2_Q8 := (bn704, bn723)
noncomputable def q_b115_3 : ev_H := (bn724 : e2_Q8)
def bn725 : e2_Q8 := (bn704, bn696)
noncomputable def q_b115_4 : ev_H := (bn725 : e2_Q8)
noncomputable def rs_b115 : e2_Rs := [((9, 0, 0), q_b115_0), ((9, 0, 0), q_b115_1), ((9, 0, 0), q_b115_2), ((9, 0, 0), q_b115_3), ((9, 0, 0), q_b115_4)]
noncomputable def s_b115 : e2_Sm := (196, as_b115, E_b115, f_b115, rs_b115)
noncomputable def S_b115 : List e2_Sm := [s_b3, s_b80, s_b81, s_b93, s_b94, s_b95, s_b96, s_b97, s_b100, s_b102, s_b103, s_b104, s_b105, s_b106, s_b108, s_b110, s_b112, s_b114]
noncomputable def I_b115 : List e2_In := [(179, 3, e2x_179)]
set_option maxRecDepth 1000000 in
theorem ck_b115 : e2_run (e2_cal S_b115 I_b115 4000 1) (e2_fin rs_b115) e2x_196 (fun _ => false) (fun _ _ _ _ _ => false) 4000 (e2_seek e2x_196 0) (e2_al 2 as_b115) [] E_b115 f_b115 = true := by decide +kernel
set_option maxRecDepth 1000000 in
theorem co_b115 : e2_okSB E_b115.length as_b115 f_b115 rs_b115 = true := by decide +kernel
theorem cs_b115 (hen : en_ok) (l : Launch) (hh : e2_hand_b l) : e2_smOk l 62 s_b115 := e2_con0 (H := 60) (n := 1) (C := evd_196) (S := S_b115) (I := I_b115) (fuel := 4000) [] hen ei_196 (e2_fa (hh _ hm_b3) (e2_fa ((cs_b80 hen l).mono (by decide)) (e2_fa ((cs_b81 hen l).mono (by decide)) (e2_fa ((cs_b93 hen l).mono (by decide)) (e2_fa ((cs_b94 hen l).mono (by decide)) (e2_fa ((cs_b95 hen l).mono (by decide)) (e2_fa ((cs_b96 hen l).mono (by decide)) (e2_fa ((cs_b97 hen l).mono (by decide)) (e2_fa ((cs_b100 hen l).mono (by decide)) (e2_fa ((cs_b102 hen l).mono (by decide)) (e2_fa ((cs_b103 hen l).mono (by decide)) (e2_fa ((cs_b104 hen l).mono (by decide)) (e2_fa ((cs_b105 hen l).mono (by decide)) (e2_fa ((cs_b106 hen l).mono (by decide)) (e2_fa ((cs_b108 hen l).mono (by decide)) (e2_fa ((cs_b110 hen l).mono (by decide)) (e2_fa ((cs_b112 hen l).mono (by decide)) (e2_fa ((cs_b114 hen l).mono (by decide)) e2_fz)))))))))))))))))) (e2_fa ein_179 e2_fz) (by decide) co_b115 ex2_196 ck_b115
/-! b116 X10_fresh -/
def as_b116 : List ev_V := [(2, 83, 0), (11, 2147483647, 2147483655)]
def E_b116 : e2_E := [(2147483648, 2147583648, 0, 0), (2147483648, 2147483656, 1, 0), (2147483648, 2147485249, 2, 0)]
noncomputable def f_b116 : ev_H := (bn564 : e2_Q8)
noncomputable def q_b116_0 : ev_H := (bn572 : e2_Q8)
noncomputable def q_b116_1 : ev_H := (bn508 : e2_Q8)
noncomputable def q_b116_2 : ev_H := (bn500 : e2_Q8)
noncomputable def rs_b116 : e2_Rs := [((5, 0, 0), q_b116_0), ((5, 0, 0), q_b116_1), ((5, 0, 0), q_b116_2)]
noncomputable def s_b116 : e2_Sm := (191, as_b116, E_b116, f_b116, rs_b116)
noncomputable def S_b116 : List e2_Sm := [s_b74]
noncomputable def I_b116 : List e2_In := [(173, 3, e2x_173), (174, 1, e2x_174), (180, 1, e2x_180)]
set_option maxRecDepth 1000000 in
theorem ck_b116 : e2_run (e2_cal S_b116 I_b116 4000 2) (e2_fin rs_b116) e2x_191 (fun _ => false) (fun _ _ _ _ _ => false) 4000 (e2_seek e2x_191 0) (e2_al 4 as_b116) [] E_b116 f_b116 = true := by decide +kernel
set_option maxRecDepth 1000000 in
theorem co_b116 : e2_okSB E_b116.length as_b116 f_b116 rs_b116 = true := by decide +kernel
theorem cs_b116 (hen : en_ok) (l : Launch) : e2_smOk l 6 s_b116 := e2_con0 (H := 3) (n := 2) (C := evd_191) (S := S_b116) (I := I_b116) (fuel := 4000) [] hen ei_191 (e2_fa (cs_b74 hen l) e2_fz) (e2_fa ein_173 (e2_fa ein_174 (e2_fa ein_180 e2_fz))) (by decide) co_b116 ex2_191 ck_b116
/-! b117 X10_here -/
def as_b117 : List ev_V := [(2, 83, 0), (2, 106, 0), (0, 8, 0), (11, 2147483648, 2147483656)]
def E_b117 : e2_E := [(2147483648, 2147583648, 0, 0), (2147483648, 2147483656, 1, 0), (2147483648, 2147485249, 2, 0)]
def bn726 : e2_Q5 := (bn77, bn685)
def bn727 : e2_Q6 := (bn726, bn272)
def bn728 : e2_Q7 := (bn335, bn727)
def bn729 : e2_Q7 := (bn339, bn562)
def bn730 : e2_Q8 := (bn728, bn729)
noncomputable def f_b117 : ev_H := (bn730 : e2_Q8)
noncomputable def q_b117_0 : ev_H := (bn730 : e2_Q8)
noncomputable def rs_b117 : e2_Rs := [((11, 2147483647, 2147483655), q_b117_0)]
noncomputable def s_b117 : e2_Sm := (188, as_b117, E_b117, f_b117, rs_b117)
noncomputable def S_b117 : List e2_Sm := []
noncomputable def I_b117 : List e2_In := []
set_option maxRecDepth 1000000 in
theorem co_b117 : e2_okSB E_b117.length as_b117 f_b117 rs_b117 = true := by decide +kernel
def al_b117_0 : List ev_V := [(2, 83, 0), (2, 106, 0), (0, 8, 0), (11, 2147483648, 2147483656), (1, 3, 4294967296)]
def E_b117_0 : e2_E := [(2147483648, 2147583648, 0, 0), (2147483648, 2147483656, 1, 0), (2147483648, 2147485249, 2, 0), (2147483648, 2147483656, 3, 0)]
noncomputable def h_b117_0 : ev_H := (bn730 : e2_Q8)
noncomputable def cl_b117_e : List (Nat × e2_S) := [(3, e2_cutL (al_b117_0.set 4 (11, 2147483648, 2147483656)) 3 (E_b117_0.take 3) h_b117_0)]
set_option maxRecDepth 1000000 in
theorem ck_b117_e : e2_run (e2_cal S_b117 I_b117 4000 0) (e2_fin rs_b117) e2x_188 (e2_bpL cl_b117_e) (e2_cutA cl_b117_e) 4000 (e2_seek e2x_188 0) (e2_al 5 as_b117) [] E_b117 f_b117 = true := by decide +kernel
noncomputable def cl_b117_0 : List (Nat × e2_S) := [(3, e2_cutL (al_b117_0.set 4 (13, 11, 2147483656)) 3 (E_b117_0.take 3) h_b117_0)]
set_option maxRecDepth 1000000 in
theorem ck_b117_0 : e2_runM (e2_cal S_b117 I_b117 4000 0) (e2_fin rs_b117) e2x_188 (e2_bpL cl_b117_0) (e2_cutA cl_b117_0) 4000 (e2_seek e2x_188 3) al_b117_0 [] E_b117_0 h_b117_0 = true := by decide +kernel
set_option maxRecDepth 1000000 in
theorem ci_b117_0 : e2_idl 3 (al_b117_0.set 4 (9, 0, 0)) = true := by decide +kernel
set_option maxRecDepth 1000000 in
theorem cj_b117_0 : e2_idh 3 8 h_b117_0 = true := by decide +kernel
theorem cs_b117 (hen : en_ok) (l : Launch) : e2_smOk l 1 s_b117 := by
  refine e2_conG (H := 0) (n := 0) (C := evd_188) (S := S_b117) (I := I_b117) (fuel := 4000) hen ei_188 e2_fz e2_fz (by decide) co_b117 fun M d _ hC hcall p e R s m args below meth c Q D cA A ads r0 ha hl0 => ?_
  have L_0 : e2_gdM M p l e R s m args below meth c Q D cA A ads r0 3 al_b117_0 [] E_b117_0 h_b117_0 := by
    refine e2_indL (u := 3) (j := 4) (lo := 2147483648) (hi := 2147483656) (b := 3) (dd := 0) hl0 (by decide) rfl rfl (Or.inr ⟨rfl, rfl⟩) rfl ci_b117_0 cj_b117_0 ?_
    intro r_0 k_0 hk_0 hp_0 hs_0 hn_0
    have hl_0 : r_0.length ≤ 4 := hs_0.len rfl
    have ha_0 := ha.ext hp_0
    exact e2_fromM hen ha_0 hcall (e2_cutA_ok (e2_fa (fun al st E h hc => hn_0 al st E h hc) e2_fz)) (hC []) (X := e2x_188) ex2_188 3 ck_b117_0
  have EN_0 := e2_entL (u := 3) (j := 4) (lo := 2147483648) (hi := 2147483656) hl0 rfl rfl rfl ci_b117_0 cj_b117_0 L_0
  exact e2_from hen ha hcall (e2_cutA_ok (e2_fa (fun al st E h hc => EN_0 al st E h hc) e2_fz)) (hC []) (X := e2x_188) ex2_188 0 ck_b117_e
/-! b118 X10_glyphHere -/
def as_b118 : List ev_V := [(2, 83, 0)]
def E_b118 : e2_E := [(2147483648, 2147583648, 0, 0), (2147483648, 2147483656, 1, 0), (2147483648, 2147485249, 2, 0)]
def bn731 : e2_Q7 := (bn648, bn727)
def bn732 : e2_Q8 := (bn731, bn729)
noncomputable def f_b118 : ev_H := (bn732 : e2_Q8)
noncomputable def q_b118_0 : ev_H := (bn732 : e2_Q8)
noncomputable def rs_b118 : e2_Rs := [((11, 2147483647, 2147483655), q_b118_0)]
noncomputable def s_b118 : e2_Sm := (190, as_b118, E_b118, f_b118, rs_b118)
noncomputable def S_b118 : List e2_Sm := [s_b117]
noncomputable def I_b118 : List e2_In := []
set_option maxRecDepth 1000000 in
theorem ck_b118 : e2_run (e2_cal S_b118 I_b118 4000 0) (e2_fin rs_b118) e2x_190 (fun _ => false) (fun _ _ _ _ _ => false) 4000 (e2_seek e2x_190 0) (e2_al 1 as_b118) [] E_b118 f_b118 = true := by decide +kernel
set_option maxRecDepth 1000000 in
theorem co_b118 : e2_okSB E_b118.length as_b118 f_b118 rs_b118 = true := by decide +kernel
theorem cs_b118 (hen : en_ok) (l : Launch) : e2_smOk l 2 s_b118 := e2_con0 (H := 1) (n := 0) (C := evd_190) (S := S_b118) (I := I_b118) (fuel := 4000) [] hen ei_190 (e2_fa (cs_b117 hen l) e2_fz) e2_fz (by decide) co_b118 ex2_190 ck_b118
/-! b119 X10_readGlyph -/
def as_b119 : List ev_V := [(2, 83, 0)]
def E_b119 : e2_E := [(2147483648, 2147583648, 0, 0), (2147483648, 2147483656, 1, 0), (2147483648, 2147485249, 2, 0)]
def bn733 : e2_Q4 := (bn692, bn559)
def bn734 : e2_Q5 := (bn733, bn289)
def bn735 : e2_Q6 := (bn734, bn651)
def bn736 : e2_Q7 := (bn690, bn735)
def bn737 : e2_Q8 := (bn688, bn736)
noncomputable def f_b119 : ev_H := (bn737 : e2_Q8)
noncomputable def q_b119_0 : ev_H := (bn709 : e2_Q8)
noncomputable def q_b119_1 : ev_H := (bn714 : e2_Q8)
noncomputable def q_b119_2 : ev_H := (bn719 : e2_Q8)
noncomputable def q_b119_3 : ev_H := (bn724 : e2_Q8)
noncomputable def q_b119_4 : ev_H := (bn725 : e2_Q8)
noncomputable def rs_b119 : e2_Rs := [((9, 0, 0), q_b119_0), ((9, 0, 0), q_b119_1), ((9, 0, 0), q_b119_2), ((9, 0, 0), q_b119_3), ((9, 0, 0), q_b119_4)]
noncomputable def s_b119 : e2_Sm := (196, as_b119, E_b119, f_b119, rs_b119)
noncomputable def S_b119 : List e2_Sm := [s_b4, s_b5, s_b6, s_b80, s_b81, s_b93, s_b94, s_b95, s_b96, s_b97, s_b103, s_b104, s_b105, s_b106, s_b108, s_b110, s_b112, s_b114, s_b116, s_b118]
noncomputable def I_b119 : List e2_In := [(179, 3, e2x_179)]
set_option maxRecDepth 1000000 in
theorem ck_b119 : e2_run (e2_cal S_b119 I_b119 4000 1) (e2_fin rs_b119) e2x_196 (fun _ => false) (fun _ _ _ _ _ => false) 4000 (e2_seek e2x_196 0) (e2_al 2 as_b119) [] E_b119 f_b119 = true := by decide +kernel
set_option maxRecDepth 1000000 in
theorem co_b119 : e2_okSB E_b119.length as_b119 f_b119 rs_b119 = true := by decide +kernel
theorem cs_b119 (hen : en_ok) (l : Launch) (hh : e2_hand_b l) : e2_smOk l 62 s_b119 := e2_con0 (H := 60) (n := 1) (C := evd_196) (S := S_b119) (I := I_b119) (fuel := 4000) [] hen ei_196 (e2_fa (hh _ hm_b4) (e2_fa (hh _ hm_b5) (e2_fa (hh _ hm_b6) (e2_fa ((cs_b80 hen l).mono (by decide)) (e2_fa ((cs_b81 hen l).mono (by decide)) (e2_fa ((cs_b93 hen l).mono (by decide)) (e2_fa ((cs_b94 hen l).mono (by decide)) (e2_fa ((cs_b95 hen l).mono (by decide)) (e2_fa ((cs_b96 hen l).mono (by decide)) (e2_fa ((cs_b97 hen l).mono (by decide)) (e2_fa ((cs_b103 hen l).mono (by decide)) (e2_fa ((cs_b104 hen l).mono (by decide)) (e2_fa ((cs_b105 hen l).mono (by decide)) (e2_fa ((cs_b106 hen l).mono (by decide)) (e2_fa ((cs_b108 hen l).mono (by decide)) (e2_fa ((cs_b110 hen l).mono (by decide)) (e2_fa ((cs_b112 hen l).mono (by decide)) (e2_fa ((cs_b114 hen l).mono (by decide)) (e2_fa ((cs_b116 hen l).mono (by decide)) (e2_fa ((cs_b118 hen l).mono (by decide)) e2_fz)))))))))))))))))))) (e2_fa ein_179 e2_fz) (by decide) co_b119 ex2_196 ck_b119
/-! b120 X10_readNever -/
def as_b120 : List ev_V := [(2, 83, 0)]
def E_b120 : e2_E := [(2147483648, 2147583648, 0, 0), (2147483648, 2147483656, 1, 0), (2147483648, 2147485249, 2, 0)]
noncomputable def f_b120 : ev_H := (bn650 : e2_Q8)
def bn738 : e2_Q8 := (bn649, bn555)
noncomputable def q_b120_0 : ev_H := (bn738 : e2_Q8)
noncomputable def rs_b120 : e2_Rs := [((9, 0, 0), q_b120_0)]
noncomputable def s_b120 : e2_Sm := (197, as_b120, E_b120, f_b120, rs_b120)
noncomputable def S_b120 : List e2_Sm := [s_b102, s_b103]
noncomputable def I_b120 : List e2_In := [(174, 1, e2x_174)]
set_option maxRecDepth 1000000 in
theorem ck_b120 : e2_run (e2_cal S_b120 I_b120 4000 1) (e2_fin rs_b120) e2x_197 (fun _ => false) (fun _ _ _ _ _ => false) 4000 (e2_seek e2x_197 0) (e2_al 3 as_b120) [] E_b120 f_b120 = true := by decide +kernel
set_option maxRecDepth 1000000 in
theorem co_b120 : e2_okSB E_b120.length as_b120 f_b120 rs_b120 = true := by decide +kernel
theorem cs_b120 (hen : en_ok) (l : Launch) : e2_smOk l 5 s_b120 := e2_con0 (H := 3) (n := 1) (C := evd_197) (S := S_b120) (I := I_b120) (fuel := 4000) [] hen ei_197 (e2_fa ((cs_b102 hen l).mono (by decide)) (e2_fa (cs_b103 hen l) e2_fz)) (e2_fa ein_174 e2_fz) (by decide) co_b120 ex2_197 ck_b120
/-! b121 X10_known -/
def as_b121 : List ev_V := [(2, 83, 0), (11, 2147483647, 2147483655)]
def E_b121 : e2_E := [(2147483648, 2147583648, 0, 0), (2147483648, 2147483656, 1, 0), (2147483648, 2147485249, 2, 0)]
noncomputable def f_b121 : ev_H := (bn564 : e2_Q8)
noncomputable def q_b121_0 : ev_H := (bn572 : e2_Q8)
noncomputable def q_b121_1 : ev_H := (bn508 : e2_Q8)
noncomputable def q_b121_2 : ev_H := (bn500 : e2_Q8)
noncomputable def rs_b121 : e2_Rs := [((11, 2147483648, 2147483655), q_b121_0), ((11, 2147483648, 2147483655), q_b121_1), ((11, 2147483648, 2147483655), q_b121_2)]
noncomputable def s_b121 : e2_Sm := (192, as_b121, E_b121, f_b121, rs_b121)
noncomputable def S_b121 : List e2_Sm := [s_b74]
noncomputable def I_b121 : List e2_In := [(173, 3, e2x_173), (174, 1, e2x_174), (180, 1, e2x_180)]
set_option maxRecDepth 1000000 in
theorem ck_b121 : e2_run (e2_cal S_b121 I_b121 4000 2) (e2_fin rs_b121) e2x_192 (fun _ => false) (fun _ _ _ _ _ => false) 4000 (e2_seek e2x_192 0) (e2_al 2 as_b121) [] E_b121 f_b121 = true := by decide +kernel
set_option maxRecDepth 1000000 in
theorem co_b121 : e2_okSB E_b121.length as_b121 f_b121 rs_b121 = true := by decide +kernel
theorem cs_b121 (hen : en_ok) (l : Launch) : e2_smOk l 6 s_b121 := e2_con0 (H := 3) (n := 2) (C := evd_192) (S := S_b121) (I := I_b121) (fuel := 4000) [] hen ei_192 (e2_fa (cs_b74 hen l) e2_fz) (e2_fa ein_173 (e2_fa ein_174 (e2_fa ein_180 e2_fz))) (by decide) co_b121 ex2_192 ck_b121
/-! b122 X10_known -/
def as_b122 : List ev_V := [(2, 83, 0), (11, 2147483648, 2147483655)]
def E_b122 : e2_E := [(2147483648, 2147583648, 0, 0), (2147483648, 2147483656, 1, 0), (2147483648, 2147485249, 2, 0)]
noncomputable def f_b122 : ev_H := (bn576 : e2_Q8)
noncomputable def q_b122_0 : ev_H := (bn576 : e2_Q8)
noncomputable def rs_b122 : e2_Rs := [((0, 0, 0), q_b122_0)]
noncomputable def s_b122 : e2_Sm := (192, as_b122, E_b122, f_b122, rs_b122)
noncomputable def S_b122 : List e2_Sm := []
noncomputable def I_b122 : List e2_In := [(174, 1, e2x_174)]
set_option maxRecDepth 1000000 in
theorem ck_b122 : e2_run (e2_cal S_b122 I_b122 4000 1) (e2_fin rs_b122) e2x_192 (fun _ => false) (fun _ _ _ _ _ => false) 4000 (e2_seek e2x_192 0) (e2_al 2 as_b122) [] E_b122 f_b122 = true := by decide +kernel
set_option maxRecDepth 1000000 in
theorem co_b122 : e2_okSB E_b122.length as_b122 f_b122 rs_b122 = true := by decide +kernel
theorem cs_b122 (hen : en_ok) (l : Launch) : e2_smOk l 2 s_b122 := e2_con0 (H := 0) (n := 1) (C := evd_192) (S := S_b122) (I := I_b122) (fuel := 4000) [] hen ei_192 e2_fz (e2_fa ein_174 e2_fz) (by decide) co_b122 ex2_192 ck_b122
/-! b123 X10_readNever -/
def as_b123 : List ev_V := [(2, 83, 0)]
def E_b123 : e2_E := [(2147483648, 2147583648, 0, 0), (2147483648, 2147483656, 1, 0), (2147483648, 2147485249, 2, 0)]
def bn739 : e2_Q5 := (bn358, bn265)
def bn740 : e2_Q6 := (bn647, bn739)
def bn741 : e2_Q7 := (bn740, bn727)
def bn742 : e2_Q6 := (bn380, bn284)
def bn743 : e2_Q7 := (bn742, bn562)
def bn744 : e2_Q8 := (bn741, bn743)
noncomputable def f_b123 : ev_H := (bn744 : e2_Q8)
def bn745 : e2_Q7 := (bn742, bn570)
def bn746 : e2_Q8 := (bn741, bn745)
noncomputable def q_b123_0 : ev_H := (bn746 : e2_Q8)
def bn747 : e2_Q7 := (bn742, bn498)
def bn748 : e2_Q8 := (bn741, bn747)
noncomputable def q_b123_1 : ev_H := (bn748 : e2_Q8)
def bn749 : e2_Q7 := (bn742, bn506)
def bn750 : e2_Q8 := (bn741, bn749)
noncomputable def q_b123_2 : ev_H := (bn750 : e2_Q8)
def bn751 : e2_Q7 := (bn742, bn554)
def bn752 : e2_Q8 := (bn741, bn751)
noncomputable def q_b123_3 : ev_H := (bn752 : e2_Q8)
noncomputable def rs_b123 : e2_Rs := [((9, 0, 0), q_b123_0), ((9, 0, 0), q_b123_1), ((9, 0, 0), q_b123_2), ((9, 0, 0), q_b123_3)]
noncomputable def s_b123 : e2_Sm := (197, as_b123, E_b123, f_b123, rs_b123)
noncomputable def S_b123 : List e2_Sm := [s_b102, s_b103, s_b118, s_b121, s_b122]
noncomputable def I_b123 : List e2_In := [(173, 3, e2x_173), (174, 1, e2x_174)]
set_option maxRecDepth 1000000 in
theorem ck_b123 : e2_run (e2_cal S_b123 I_b123 4000 1) (e2_fin rs_b123) e2x_197 (fun _ => false) (fun _ _ _ _ _ => false) 4000 (e2_seek e2x_197 0) (e2_al 3 as_b123) [] E_b123 f_b123 = true := by decide +kernel
set_option maxRecDepth 1000000 in
theorem co_b123 : e2_okSB E_b123.length as_b123 f_b123 rs_b123 = true := by decide +kernel
theorem cs_b123 (hen : en_ok) (l : Launch) : e2_smOk l 8 s_b123 := e2_con0 (H := 6) (n := 1) (C := evd_197) (S := S_b123) (I := I_b123) (fuel := 4000) [] hen ei_197 (e2_fa ((cs_b102 hen l).mono (by decide)) (e2_fa ((cs_b103 hen l).mono (by decide)) (e2_fa ((cs_b118 hen l).mono (by decide)) (e2_fa (cs_b121 hen l) (e2_fa ((cs_b122 hen l).mono (by decide)) e2_fz))))) (e2_fa ein_173 (e2_fa ein_174 e2_fz)) (by decide) co_b123 ex2_197 ck_b123
/-! b124 X10_readRule -/
def as_b124 : List ev_V := [(2, 83, 0), (11, 2147483648, 2147483649)]
def E_b124 : e2_E := [(2147483648, 2147583648, 0, 0), (2147483648, 2147483656, 1, 0), (2147483648, 2147485249, 2, 0)]
def bn753 : e2_Q4 := (bn350, bn28)
def bn754 : e2_Q5 := (bn14, bn753)
def bn755 : e2_Q6 := (bn754, bn61)
def bn756 : e2_Q5 := (bn309, bn123)
def bn757 : e2_Q6 := (bn93, bn756)
def bn758 : e2_Q7 := (bn755, bn757)
def bn759 : e2_Q4 := (bn314, bn171)
def bn760 : e2_Q5 := (bn759, bn186)
def bn761 : e2_Q6 := (bn157, bn760)
def bn762 : e2_Q5 := (bn464, bn218)
def bn763 : e2_Q6 := (bn762, bn250)
def bn764 : e2_Q7 := (bn761, bn763)
def bn765 : e2_Q8 := (bn758, bn764)
noncomputable def f_b124 : ev_H := (bn765 : e2_Q8)
def bn766 : e2_Q7 := (bn761, bn251)
def bn767 : e2_Q8 := (bn758, bn766)
noncomputable def q_b124_0 : ev_H := (bn767 : e2_Q8)
noncomputable def rs_b124 : e2_Rs := [((9, 0, 0), q_b124_0)]
noncomputable def s_b124 : e2_Sm := (199, as_b124, E_b124, f_b124, rs_b124)
noncomputable def S_b124 : List e2_Sm := [s_b1]
noncomputable def I_b124 : List e2_In := []
set_option maxRecDepth 1000000 in
theorem ck_b124 : e2_run (e2_cal S_b124 I_b124 4000 0) (e2_fin rs_b124) e2x_199 (fun _ => false) (fun _ _ _ _ _ => false) 4000 (e2_seek e2x_199 0) (e2_al 2 as_b124) [] E_b124 f_b124 = true := by decide +kernel
set_option maxRecDepth 1000000 in
theorem co_b124 : e2_okSB E_b124.length as_b124 f_b124 rs_b124 = true := by decide +kernel
theorem cs_b124 (hen : en_ok) (l : Launch) (hh : e2_hand_b l) : e2_smOk l 61 s_b124 := e2_con0 (H := 60) (n := 0) (C := evd_199) (S := S_b124) (I := I_b124) (fuel := 4000) [] hen ei_199 (e2_fa (hh _ hm_b1) e2_fz) e2_fz (by decide) co_b124 ex2_199 ck_b124
/-! b125 X10_readRule -/
def as_b125 : List ev_V := [(2, 83, 0), (11, 2147483648, 2147483649)]
def E_b125 : e2_E := [(2147483648, 2147583648, 0, 0), (2147483648, 2147483656, 1, 0), (2147483648, 2147485249, 2, 0)]
def bn768 : e2_Q5 := (bn560, bn218)
def bn769 : e2_Q6 := (bn768, bn250)
def bn770 : e2_Q7 := (bn761, bn769)
def bn771 : e2_Q8 := (bn758, bn770)
noncomputable def f_b125 : ev_H := (bn771 : e2_Q8)
noncomputable def q_b125_0 : ev_H := (bn767 : e2_Q8)
noncomputable def rs_b125 : e2_Rs := [((9, 0, 0), q_b125_0)]
noncomputable def s_b125 : e2_Sm := (199, as_b125, E_b125, f_b125, rs_b125)
noncomputable def S_b125 : List e2_Sm := [s_b2]
noncomputable def I_b125 : List e2_In := []
set_option maxRecDepth 1000000 in
theorem ck_b125 : e2_run (e2_cal S_b125 I_b125 4000 0) (e2_fin rs_b125) e2x_199 (fun _ => false) (fun _ _ _ _ _ => false) 4000 (e2_seek e2x_199 0) (e2_al 2 as_b125) [] E_b125 f_b125 = true := by decide +kernel
set_option maxRecDepth 1000000 in
theorem co_b125 : e2_okSB E_b125.length as_b125 f_b125 rs_b125 = true := by decide +kernel
theorem cs_b125 (hen : en_ok) (l : Launch) (hh : e2_hand_b l) : e2_smOk l 61 s_b125 := e2_con0 (H := 60) (n := 0) (C := evd_199) (S := S_b125) (I := I_b125) (fuel := 4000) [] hen ei_199 (e2_fa (hh _ hm_b2) e2_fz) e2_fz (by decide) co_b125 ex2_199 ck_b125
/-! b126 X10_readThing -/
def as_b126 : List ev_V := [(2, 83, 0)]
def E_b126 : e2_E := [(2147483648, 2147583648, 0, 0), (2147483648, 2147483656, 1, 0), (2147483648, 2147485249, 2, 0)]
def bn772 : e2_Q6 := (bn465, bn439)
def bn773 : e2_Q7 := (bn660, bn772)
def bn774 : e2_Q8 := (bn336, bn773)
noncomputable def f_b126 : ev_H := (bn774 : e2_Q8)
def bc184 : ev_C := (50, [(11, 2147483648, 2147483652), (11, 2147483649, 2147483652)])
def bn775 : e2_Q1 := (bc184, bc3)
def bn776 : e2_Q2 := (bn227, bn775)
def bn777 : e2_Q3 := (bn776, bn232)
def bn778 : e2_Q4 := (bn226, bn777)
def bn779 : e2_Q5 := (bn778, bn438)
def bn780 : e2_Q6 := (bn553, bn779)
def bn781 : e2_Q7 := (bn660, bn780)
def bn782 : e2_Q8 := (bn336, bn781)
noncomputable def q_b126_0 : ev_H := (bn782 : e2_Q8)
noncomputable def rs_b126 : e2_Rs := [((9, 0, 0), q_b126_0)]
noncomputable def s_b126 : e2_Sm := (193, as_b126, E_b126, f_b126, rs_b126)
noncomputable def S_b126 : List e2_Sm := [s_b89, s_b100, s_b108]
noncomputable def I_b126 : List e2_In := []
set_option maxRecDepth 1000000 in
theorem ck_b126 : e2_run (e2_cal S_b126 I_b126 4000 0) (e2_fin rs_b126) e2x_193 (fun _ => false) (fun _ _ _ _ _ => false) 4000 (e2_seek e2x_193 0) (e2_al 2 as_b126) [] E_b126 f_b126 = true := by decide +kernel
set_option maxRecDepth 1000000 in
theorem co_b126 : e2_okSB E_b126.length as_b126 f_b126 rs_b126 = true := by decide +kernel
theorem cs_b126 (hen : en_ok) (l : Launch) : e2_smOk l 5 s_b126 := e2_con0 (H := 4) (n := 0) (C := evd_193) (S := S_b126) (I := I_b126) (fuel := 4000) [] hen ei_193 (e2_fa (cs_b89 hen l) (e2_fa ((cs_b100 hen l).mono (by decide)) (e2_fa ((cs_b108 hen l).mono (by decide)) e2_fz))) e2_fz (by decide) co_b126 ex2_193 ck_b126
/-! b127 X10_here -/
def as_b127 : List ev_V := [(2, 83, 0), (2, 105, 0), (0, 4, 0), (11, 2147483648, 2147483651)]
def E_b127 : e2_E := [(2147483648, 2147583648, 0, 0), (2147483648, 2147483656, 1, 0), (2147483648, 2147485249, 2, 0)]
def bn783 : e2_Q7 := (bn660, bn562)
def bn784 : e2_Q8 := (bn336, bn783)
noncomputable def f_b127 : ev_H := (bn784 : e2_Q8)
noncomputable def q_b127_0 : ev_H := (bn784 : e2_Q8)
noncomputable def rs_b127 : e2_Rs := [((11, 2147483647, 2147483650), q_b127_0)]
noncomputable def s_b127 : e2_Sm := (188, as_b127, E_b127, f_b127, rs_b127)
noncomputable def S_b127 : List e2_Sm := []
noncomputable def I_b127 : List e2_In := []
set_option maxRecDepth 1000000 in
theorem co_b127 : e2_okSB E_b127.length as_b127 f_b127 rs_b127 = true := by decide +kernel
def al_b127_0 : List ev_V := [(2, 83, 0), (2, 105, 0), (0, 4, 0), (11, 2147483648, 2147483651), (1, 3, 4294967296)]
def E_b127_0 : e2_E := [(2147483648, 2147583648, 0, 0), (2147483648, 2147483656, 1, 0), (2147483648, 2147485249, 2, 0), (2147483648, 2147483651, 3, 0)]
noncomputable def h_b127_0 : ev_H := (bn784 : e2_Q8)
noncomputable def cl_b127_e : List (Nat × e2_S) := [(3, e2_cutL (al_b127_0.set 4 (11, 2147483648, 2147483651)) 3 (E_b127_0.take 3) h_b127_0)]
set_option maxRecDepth 1000000 in
theorem ck_b127_e : e2_run (e2_cal S_b127 I_b127 4000 0) (e2_fin rs_b127) e2x_188 (e2_bpL cl_b127_e) (e2_cutA cl_b127_e) 4000 (e2_seek e2x_188 0) (e2_al 5 as_b127) [] E_b127 f_b127 = true := by decide +kernel
noncomputable def cl_b127_0 : List (Nat × e2_S) := [(3, e2_cutL (al_b127_0.set 4 (13, 11, 2147483651)) 3 (E_b127_0.take 3) h_b127_0)]
set_option maxRecDepth 1000000 in
theorem ck_b127_0 : e2_runM (e2_cal S_b127 I_b127 4000 0) (e2_fin rs_b127) e2x_188 (e2_bpL cl_b127_0) (e2_cutA cl_b127_0) 4000 (e2_seek e2x_188 3) al_b127_0 [] E_b127_0 h_b127_0 = true := by decide +kernel
set_option maxRecDepth 1000000 in
theorem ci_b127_0 : e2_idl 3 (al_b127_0.set 4 (9, 0, 0)) = true := by decide +kernel
set_option maxRecDepth 1000000 in
theorem cj_b127_0 : e2_idh 3 8 h_b127_0 = true := by decide +kernel
theorem cs_b127 (hen : en_ok) (l : Launch) : e2_smOk l 1 s_b127 := by
  refine e2_conG (H := 0) (n := 0) (C := evd_188) (S := S_b127) (I := I_b127) (fuel := 4000) hen ei_188 e2_fz e2_fz (by decide) co_b127 fun M d _ hC hcall p e R s m args below meth c Q D cA A ads r0 ha hl0 => ?_
  have L_0 : e2_gdM M p l e R s m args below meth c Q D cA A ads r0 3 al_b127_0 [] E_b127_0 h_b127_0 := by
    refine e2_indL (u := 3) (j := 4) (lo := 2147483648) (hi := 2147483651) (b := 3) (dd := 0) hl0 (by decide) rfl rfl (Or.inr ⟨rfl, rfl⟩) rfl ci_b127_0 cj_b127_0 ?_
    intro r_0 k_0 hk_0 hp_0 hs_0 hn_0
    have hl_0 : r_0.length ≤ 4 := hs_0.len rfl
    have ha_0 := ha.ext hp_0
    exact e2_fromM hen ha_0 hcall (e2_cutA_ok (e2_fa (fun al st E h hc => hn_0 al st E h hc) e2_fz)) (hC []) (X := e2x_188) ex2_188 3 ck_b127_0
  have EN_0 := e2_entL (u := 3) (j := 4) (lo := 2147483648) (hi := 2147483651) hl0 rfl rfl rfl ci_b127_0 cj_b127_0 L_0
  exact e2_from hen ha hcall (e2_cutA_ok (e2_fa (fun al st E h hc => EN_0 al st E h hc) e2_fz)) (hC []) (X := e2x_188) ex2_188 0 ck_b127_e
/-! b128 X10_thingHere -/
def as_b128 : List ev_V := [(2, 83, 0)]
def E_b128 : e2_E := [(2147483648, 2147583648, 0, 0), (2147483648, 2147483656, 1, 0), (2147483648, 2147485249, 2, 0)]
def bn785 : e2_Q6 := (bn561, bn651)
def bn786 : e2_Q7 := (bn660, bn785)
def bn787 : e2_Q8 := (bn336, bn786)
noncomputable def f_b128 : ev_H := (bn787 : e2_Q8)
noncomputable def q_b128_0 : ev_H := (bn787 : e2_Q8)
noncomputable def rs_b128 : e2_Rs := [((11, 2147483647, 2147483650), q_b128_0)]
noncomputable def s_b128 : e2_Sm := (189, as_b128, E_b128, f_b128, rs_b128)
noncomputable def S_b128 : List e2_Sm := [s_b127]
noncomputable def I_b128 : List e2_In := []
set_option maxRecDepth 1000000 in
theorem ck_b128 : e2_run (e2_cal S_b128 I_b128 4000 0) (e2_fin rs_b128) e2x_189 (fun _ => false) (fun _ _ _ _ _ => false) 4000 (e2_seek e2x_189 0) (e2_al 1 as_b128) [] E_b128 f_b128 = true := by decide +kernel
set_option maxRecDepth 1000000 in
theorem co_b128 : e2_okSB E_b128.length as_b128 f_b128 rs_b128 = true := by decide +kernel
theorem cs_b128 (hen : en_ok) (l : Launch) : e2_smOk l 2 s_b128 := e2_con0 (H := 1) (n := 0) (C := evd_189) (S := S_b128) (I := I_b128) (fuel := 4000) [] hen ei_189 (e2_fa (cs_b127 hen l) e2_fz) e2_fz (by decide) co_b128 ex2_189 ck_b128
/-! b129 X10_readThing -/
def as_b129 : List ev_V := [(2, 83, 0)]
def E_b129 : e2_E := [(2147483648, 2147583648, 0, 0), (2147483648, 2147483656, 1, 0), (2147483648, 2147485249, 2, 0)]
def bn788 : e2_Q6 := (bn659, bn284)
def bn789 : e2_Q6 := (bn561, bn439)
def bn790 : e2_Q7 := (bn788, bn789)
def bn791 : e2_Q8 := (bn336, bn790)
noncomputable def f_b129 : ev_H := (bn791 : e2_Q8)
def bn792 : e2_Q7 := (bn788, bn780)
def bn793 : e2_Q8 := (bn336, bn792)
noncomputable def q_b129_0 : ev_H := (bn793 : e2_Q8)
def bn794 : e2_Q6 := (bn505, bn779)
def bn795 : e2_Q7 := (bn788, bn794)
def bn796 : e2_Q8 := (bn336, bn795)
noncomputable def q_b129_1 : ev_H := (bn796 : e2_Q8)
def bn797 : e2_Q6 := (bn497, bn779)
def bn798 : e2_Q7 := (bn788, bn797)
def bn799 : e2_Q8 := (bn336, bn798)
noncomputable def q_b129_2 : ev_H := (bn799 : e2_Q8)
def bn800 : e2_Q6 := (bn569, bn779)
def bn801 : e2_Q7 := (bn788, bn800)
def bn802 : e2_Q8 := (bn336, bn801)
noncomputable def q_b129_3 : ev_H := (bn802 : e2_Q8)
noncomputable def rs_b129 : e2_Rs := [((9, 0, 0), q_b129_0), ((9, 0, 0), q_b129_1), ((9, 0, 0), q_b129_2), ((9, 0, 0), q_b129_3)]
noncomputable def s_b129 : e2_Sm := (193, as_b129, E_b129, f_b129, rs_b129)
noncomputable def S_b129 : List e2_Sm := [s_b90, s_b91, s_b92, s_b116, s_b128]
noncomputable def I_b129 : List e2_In := []
set_option maxRecDepth 1000000 in
theorem ck_b129 : e2_run (e2_cal S_b129 I_b129 4000 0) (e2_fin rs_b129) e2x_193 (fun _ => false) (fun _ _ _ _ _ => false) 4000 (e2_seek e2x_193 0) (e2_al 2 as_b129) [] E_b129 f_b129 = true := by decide +kernel
set_option maxRecDepth 1000000 in
theorem co_b129 : e2_okSB E_b129.length as_b129 f_b129 rs_b129 = true := by decide +kernel
theorem cs_b129 (hen : en_ok) (l : Launch) : e2_smOk l 9 s_b129 := e2_con0 (H := 8) (n := 0) (C := evd_193) (S := S_b129) (I := I_b129) (fuel := 4000) [] hen ei_193 (e2_fa (cs_b90 hen l) (e2_fa ((cs_b91 hen l).mono (by decide)) (e2_fa ((cs_b92 hen l).mono (by decide)) (e2_fa ((cs_b116 hen l).mono (by decide)) (e2_fa ((cs_b128 hen l).mono (by decide)) e2_fz))))) e2_fz (by decide) co_b129 ex2_193 ck_b129
/-! b130 X10_readLine -/
def as_b130 : List ev_V := [(2, 83, 0)]
def E_b130 : e2_E := [(2147483648, 2147583648, 0, 0), (2147483648, 2147483656, 1, 0), (2147483648, 2147485249, 2, 0)]
def bn803 : e2_Q5 := (bn257, bn409)
def bn804 : e2_Q4 := (bn357, bn44)
def bn805 : e2_Q5 := (bn804, bn60)
def bn806 : e2_Q6 := (bn803, bn805)
def bn807 : e2_Q4 := (bn684, bn364)
def bn808 : e2_Q5 := (bn681, bn807)
def bn809 : e2_Q4 := (bn308, bn369)
def bn810 : e2_Q4 := (bn115, bn372)
def bn811 : e2_Q5 := (bn809, bn810)
def bn812 : e2_Q6 := (bn808, bn811)
def bn813 : e2_Q7 := (bn806, bn812)
def bn814 : e2_Q4 := (bn657, bn378)
def bn815 : e2_Q5 := (bn278, bn814)
def bn816 : e2_Q4 := (bn178, bn383)
def bn817 : e2_Q5 := (bn759, bn816)
def bn818 : e2_Q6 := (bn815, bn817)
def bn819 : e2_Q4 := (bn692, bn487)
def bn820 : e2_Q4 := (bn210, bn392)
def bn821 : e2_Q5 := (bn819, bn820)
def bn822 : e2_Q5 := (bn416, bn438)
def bn823 : e2_Q6 := (bn821, bn822)
def bn824 : e2_Q7 := (bn818, bn823)
def bn825 : e2_Q8 := (bn813, bn824)
noncomputable def f_b130 : ev_H := (bn825 : e2_Q8)
def bn826 : e2_Q4 := (bn308, bn609)
def bn827 : e2_Q5 := (bn826, bn810)
def bn828 : e2_Q6 := (bn808, bn827)
def bn829 : e2_Q7 := (bn806, bn828)
def bn830 : e2_Q5 := (bn705, bn820)
def bn831 : e2_Q5 := (bn401, bn438)
def bn832 : e2_Q6 := (bn830, bn831)
def bn833 : e2_Q7 := (bn818, bn832)
def bn834 : e2_Q8 := (bn829, bn833)
noncomputable def q_b130_0 : ev_H := (bn834 : e2_Q8)
def bn835 : e2_Q5 := (bn715, bn820)
def bn836 : e2_Q6 := (bn835, bn831)
def bn837 : e2_Q7 := (bn818, bn836)
def bn838 : e2_Q8 := (bn829, bn837)
noncomputable def q_b130_1 : ev_H := (bn838 : e2_Q8)
def bn839 : e2_Q5 := (bn720, bn820)
def bn840 : e2_Q6 := (bn839, bn831)
def bn841 : e2_Q7 := (bn818, bn840)
def bn842 : e2_Q8 := (bn829, bn841)
noncomputable def q_b130_2 : ev_H := (bn842 : e2_Q8)
def bn843 : e2_Q5 := (bn693, bn820)
def bn844 : e2_Q6 := (bn843, bn831)
def bn845 : e2_Q7 := (bn818, bn844)
def bn846 : e2_Q8 := (bn829, bn845)
noncomputable def q_b130_3 : ev_H := (bn846 : e2_Q8)
def bn847 : e2_Q5 := (bn710, bn820)
def bn848 : e2_Q6 := (bn847, bn822)
def bn849 : e2_Q7 := (bn818, bn848)
def bn850 : e2_Q8 := (bn813, bn849)
noncomputable def q_b130_4 : ev_H := (bn850 : e2_Q8)
def bn851 : e2_Q4 := (bn350, bn700)
def bn852 : e2_Q5 := (bn257, bn851)
def bn853 : e2_Q6 := (bn852, bn805)
def bn854 : e2_Q7 := (bn853, bn812)
def bn855 : e2_Q6 := (bn835, bn822)
def bn856 : e2_Q7 := (bn818, bn855)
def bn857 : e2_Q8 := (bn854, bn856)
noncomputable def q_b130_5 : ev_H := (bn857 : e2_Q8)
def bn858 : e2_Q6 := (bn830, bn822)
def bn859 : e2_Q7 := (bn818, bn858)
def bn860 : e2_Q8 := (bn854, bn859)
noncomputable def q_b130_6 : ev_H := (bn860 : e2_Q8)
def bn861 : e2_Q6 := (bn839, bn822)
def bn862 : e2_Q7 := (bn818, bn861)
def bn863 : e2_Q8 := (bn854, bn862)
noncomputable def q_b130_7 : ev_H := (bn863 : e2_Q8)
def bn864 : e2_Q6 := (bn843, bn822)
def bn865 : e2_Q7 := (bn818, bn864)
def bn866 : e2_Q8 := (bn854, bn865)
noncomputable def q_b130_8 : ev_H := (bn866 : e2_Q8)
def bn867 : e2_Q8 := (bn854, bn849)
noncomputable def q_b130_9 : ev_H := (bn867 : e2_Q8)
noncomputable def rs_b130 : e2_Rs := [((9, 0, 0), q_b130_0), ((9, 0, 0), q_b130_1), ((9, 0, 0), q_b130_2), ((9, 0, 0), q_b130_3), ((9, 0, 0), q_b130_4), ((9, 0, 0), q_b130_5), ((9, 0, 0), q_b130_6), ((9, 0, 0), q_b130_7), ((9, 0, 0), q_b130_8), ((9, 0, 0), q_b130_9)]
noncomputable def s_b130 : e2_Sm := (187, as_b130, E_b130, f_b130, rs_b130)
noncomputable def S_b130 : List e2_Sm := [s_b74, s_b76, s_b77, s_b78, s_b79, s_b80, s_b81, s_b82, s_b83, s_b84, s_b85, s_b86, s_b98, s_b99, s_b115, s_b119, s_b120, s_b123, s_b124, s_b125, s_b126, s_b129]
noncomputable def I_b130 : List e2_In := [(170, 2, e2x_170), (173, 3, e2x_173), (174, 1, e2x_174), (178, 2, e2x_178), (179, 3, e2x_179), (180, 1, e2x_180), (186, 1, e2x_186)]
set_option maxRecDepth 1000000 in
theorem ck_b130 : e2_run (e2_cal S_b130 I_b130 4000 2) (e2_fin rs_b130) e2x_187 (fun _ => false) (fun _ _ _ _ _ => false) 4000 (e2_seek e2x_187 0) (e2_al 3 as_b130) [] E_b130 f_b130 = true := by decide +kernel
set_option maxRecDepth 1000000 in
theorem co_b130 : e2_okSB E_b130.length as_b130 f_b130 rs_b130 = true := by decide +kernel
theorem cs_b130 (hen : en_ok) (l : Launch) (hh : e2_hand_b l) : e2_smOk l 65 s_b130 := e2_con0 (H := 62) (n := 2) (C := evd_187) (S := S_b130) (I := I_b130) (fuel := 4000) [] hen ei_187 (e2_fa ((cs_b74 hen l).mono (by decide)) (e2_fa ((cs_b76 hen l).mono (by decide)) (e2_fa ((cs_b77 hen l).mono (by decide)) (e2_fa ((cs_b78 hen l).mono (by decide)) (e2_fa ((cs_b79 hen l).mono (by decide)) (e2_fa ((cs_b80 hen l).mono (by decide)) (e2_fa ((cs_b81 hen l).mono (by decide)) (e2_fa ((cs_b82 hen l).mono (by decide)) (e2_fa ((cs_b83 hen l).mono (by decide)) (e2_fa ((cs_b84 hen l).mono (by decide)) (e2_fa ((cs_b85 hen l).mono (by decide)) (e2_fa ((cs_b86 hen l).mono (by decide)) (e2_fa ((cs_b98 hen l).mono (by decide)) (e2_fa ((cs_b99 hen l).mono (by decide)) (e2_fa (cs_b115 hen l hh) (e2_fa (cs_b119 hen l hh) (e2_fa ((cs_b120 hen l).mono (by decide)) (e2_fa ((cs_b123 hen l).mono (by decide)) (e2_fa ((cs_b124 hen l hh).mono (by decide)) (e2_fa ((cs_b125 hen l hh).mono (by decide)) (e2_fa ((cs_b126 hen l).mono (by decide)) (e2_fa ((cs_b129 hen l).mono (by decide)) e2_fz)))))))))))))))))))))) (e2_fa ein_170 (e2_fa ein_173 (e2_fa ein_174 (e2_fa ein_178 (e2_fa ein_179 (e2_fa ein_180 (e2_fa ein_186 e2_fz))))))) (by decide) co_b130 ex2_187 ck_b130
