/-! CONTRACTS a, printed by a program -/
/-! a194 X4_placeFrom -/
def as_a194 : List ev_V := [(2, 59, 0), (0, 1, 0), (11, 2147483648, 2147483668), (11, 0, 4294967295)]
def E_a194 : e2_E := [(2147483648, 2147583648, 0, 0)]
def ac172 : ev_C := (4, [(2, 65, 0), (2, 63, 0), (2, 1, 0), (11, 0, 4294967295), (2, 62, 0), (11, 0, 4294967295), (11, 2147483648, 2147483668), (2, 60, 0), (11, 2147483648, 2147483668), (11, 0, 4294967295), (11, 0, 4294967295), (2, 61, 0), (2, 64, 0), (0, 1, 0)])
def an731 : e2_Q1 := (ac172, ac3)
def an732 : e2_Q2 := (an731, an216)
def an733 : e2_Q3 := (an214, an732)
def an734 : e2_Q4 := (an211, an733)
def an735 : e2_Q5 := (an345, an734)
def an736 : e2_Q6 := (an735, an602)
def an737 : e2_Q7 := (an621, an736)
def an738 : e2_Q8 := (an613, an737)
noncomputable def f_a194 : ev_H := (an738 : e2_Q8)
noncomputable def q_a194_0 : ev_H := (an738 : e2_Q8)
noncomputable def rs_a194 : e2_Rs := [((11, 2147483648, 2147483649), q_a194_0)]
noncomputable def s_a194 : e2_Sm := (81, as_a194, E_a194, f_a194, rs_a194)
noncomputable def S_a194 : List e2_Sm := [s_a176]
noncomputable def I_a194 : List e2_In := []
set_option maxRecDepth 1000000 in
theorem ck_a194 : e2_run (e2_cal S_a194 I_a194 4000 0) (e2_fin rs_a194) e2x_81 (fun _ => false) (fun _ _ _ _ _ => false) 4000 (e2_seek e2x_81 0) (e2_al 7 as_a194) [] E_a194 f_a194 = true := by decide +kernel
set_option maxRecDepth 1000000 in
theorem co_a194 : e2_okSB E_a194.length as_a194 f_a194 rs_a194 = true := by decide +kernel
theorem cs_a194 (hen : en_ok) (l : Launch) : e2_smOk l 8 s_a194 := e2_con0 (H := 7) (n := 0) (C := evd_81) (S := S_a194) (I := I_a194) (fuel := 4000) [60, 62] hen ei_81 (e2_fa (cs_a176 hen l) e2_fz) e2_fz (by decide) co_a194 ex2_81 ck_a194
/-! a195 X4_placeFrom -/
def as_a195 : List ev_V := [(2, 59, 0), (0, 0, 0), (0, 0, 0), (0, 0, 0)]
def E_a195 : e2_E := [(2147483648, 2147583648, 0, 0)]
def ac173 : ev_C := (50, [(11, 2147483648, 2147483655), (0, 4294967295, 0), (11, 2147483647, 2147483655)])
def an739 : e2_Q1 := (ac173, ac3)
def an740 : e2_Q2 := (an0, an739)
def an741 : e2_Q3 := (an740, an5)
def an742 : e2_Q4 := (an741, an13)
def an743 : e2_Q5 := (an742, an533)
def an744 : e2_Q5 := (an258, an703)
def an745 : e2_Q6 := (an743, an744)
def an746 : e2_Q7 := (an745, an612)
def an747 : e2_Q8 := (an746, an737)
noncomputable def f_a195 : ev_H := (an747 : e2_Q8)
noncomputable def q_a195_0 : ev_H := (an747 : e2_Q8)
noncomputable def rs_a195 : e2_Rs := [((11, 2147483648, 2147483649), q_a195_0)]
noncomputable def s_a195 : e2_Sm := (81, as_a195, E_a195, f_a195, rs_a195)
noncomputable def S_a195 : List e2_Sm := [s_a194]
noncomputable def I_a195 : List e2_In := [(64, 2, e2x_64)]
set_option maxRecDepth 1000000 in
theorem co_a195 : e2_okSB E_a195.length as_a195 f_a195 rs_a195 = true := by decide +kernel
def al_a195_0 : List ev_V := [(2, 59, 0), (0, 0, 0), (0, 0, 0), (0, 0, 0), (11, 2147483648, 2147483655), (1, 1, 4294967296), (9, 0, 0)]
def E_a195_0 : e2_E := [(2147483648, 2147583648, 0, 0), (2147483648, 2147483669, 1, 0)]
noncomputable def h_a195_0 : ev_H := (an747 : e2_Q8)
noncomputable def cl_a195_e : List (Nat × e2_S) := [(51, e2_cutL (al_a195_0.set 5 (11, 2147483648, 2147483669)) 1 (E_a195_0.take 1) h_a195_0)]
set_option maxRecDepth 1000000 in
theorem ck_a195_e : e2_run (e2_cal S_a195 I_a195 4000 1) (e2_fin rs_a195) e2x_81 (e2_bpL cl_a195_e) (e2_cutA cl_a195_e) 4000 (e2_seek e2x_81 0) (e2_al 7 as_a195) [] E_a195 f_a195 = true := by decide +kernel
noncomputable def cl_a195_0 : List (Nat × e2_S) := [(51, e2_cutL (al_a195_0.set 5 (13, 9, 2147483669)) 1 (E_a195_0.take 1) h_a195_0)]
set_option maxRecDepth 1000000 in
theorem ck_a195_0 : e2_runM (e2_cal S_a195 I_a195 4000 1) (e2_fin rs_a195) e2x_81 (e2_bpL cl_a195_0) (e2_cutA cl_a195_0) 4000 (e2_seek e2x_81 51) al_a195_0 [] E_a195_0 h_a195_0 = true := by decide +kernel
set_option maxRecDepth 1000000 in
theorem ci_a195_0 : e2_idl 1 (al_a195_0.set 5 (9, 0, 0)) = true := by decide +kernel
set_option maxRecDepth 1000000 in
theorem cj_a195_0 : e2_idh 1 8 h_a195_0 = true := by decide +kernel
theorem cs_a195 (hen : en_ok) (l : Launch) : e2_smOk l 10 s_a195 := by
  refine e2_conG (H := 8) (n := 1) (C := evd_81) (S := S_a195) (I := I_a195) (fuel := 4000) hen ei_81 (e2_fa (cs_a194 hen l) e2_fz) (e2_fa ein_64 e2_fz) (by decide) co_a195 fun M d _ hC hcall p e R s m args below meth c Q D cA A ads r0 ha hl0 => ?_
  have L_0 : e2_gdM M p l e R s m args below meth c Q D cA A ads r0 51 al_a195_0 [] E_a195_0 h_a195_0 := by
    refine e2_indL (u := 1) (j := 5) (lo := 2147483648) (hi := 2147483669) (b := 1) (dd := 0) hl0 (by decide) rfl rfl (Or.inr ⟨rfl, rfl⟩) rfl ci_a195_0 cj_a195_0 ?_
    intro r_0 k_0 hk_0 hp_0 hs_0 hn_0
    have hl_0 : r_0.length ≤ 2 := hs_0.len rfl
    have ha_0 := ha.ext hp_0
    exact e2_fromM hen ha_0 hcall (e2_cutA_ok (e2_fa (fun al st E h hc => hn_0 al st E h hc) e2_fz)) (hC [60, 62]) (X := e2x_81) ex2_81 51 ck_a195_0
  have EN_0 := e2_entL (u := 1) (j := 5) (lo := 2147483648) (hi := 2147483669) hl0 rfl rfl rfl ci_a195_0 cj_a195_0 L_0
  exact e2_from hen ha hcall (e2_cutA_ok (e2_fa (fun al st E h hc => EN_0 al st E h hc) e2_fz)) (hC [60, 62]) (X := e2x_81) ex2_81 0 ck_a195_e
/-! a196 X4_placeFrom -/
def as_a196 : List ev_V := [(2, 59, 0), (0, 2, 0), (11, 2147483648, 2147483668), (11, 0, 4294967295)]
def E_a196 : e2_E := [(2147483648, 2147583648, 0, 0)]
def ac174 : ev_C := (4, [(2, 65, 0), (2, 63, 0), (2, 1, 0), (11, 0, 4294967295), (2, 62, 0), (11, 0, 4294967295), (11, 2147483648, 2147483668), (2, 60, 0), (11, 2147483648, 2147483668), (11, 0, 4294967295), (11, 0, 4294967295), (2, 61, 0), (2, 64, 0), (0, 2, 0)])
def an748 : e2_Q1 := (ac174, ac3)
def an749 : e2_Q2 := (an748, an216)
def an750 : e2_Q3 := (an214, an749)
def an751 : e2_Q4 := (an211, an750)
def an752 : e2_Q5 := (an345, an751)
def an753 : e2_Q6 := (an752, an602)
def an754 : e2_Q7 := (an621, an753)
def an755 : e2_Q8 := (an613, an754)
noncomputable def f_a196 : ev_H := (an755 : e2_Q8)
noncomputable def q_a196_0 : ev_H := (an755 : e2_Q8)
noncomputable def rs_a196 : e2_Rs := [((11, 2147483648, 2147483649), q_a196_0)]
noncomputable def s_a196 : e2_Sm := (81, as_a196, E_a196, f_a196, rs_a196)
noncomputable def S_a196 : List e2_Sm := [s_a176]
noncomputable def I_a196 : List e2_In := []
set_option maxRecDepth 1000000 in
theorem ck_a196 : e2_run (e2_cal S_a196 I_a196 4000 0) (e2_fin rs_a196) e2x_81 (fun _ => false) (fun _ _ _ _ _ => false) 4000 (e2_seek e2x_81 0) (e2_al 7 as_a196) [] E_a196 f_a196 = true := by decide +kernel
set_option maxRecDepth 1000000 in
theorem co_a196 : e2_okSB E_a196.length as_a196 f_a196 rs_a196 = true := by decide +kernel
theorem cs_a196 (hen : en_ok) (l : Launch) : e2_smOk l 8 s_a196 := e2_con0 (H := 7) (n := 0) (C := evd_81) (S := S_a196) (I := I_a196) (fuel := 4000) [60, 62] hen ei_81 (e2_fa (cs_a176 hen l) e2_fz) e2_fz (by decide) co_a196 ex2_81 ck_a196
/-! a197 X4_placeFrom -/
def as_a197 : List ev_V := [(2, 59, 0), (0, 1, 0), (11, 2147483648, 2147483668), (11, 0, 4294967295)]
def E_a197 : e2_E := [(2147483648, 2147583648, 0, 0)]
def ac175 : ev_C := (50, [(11, 2147483648, 2147483655), (11, 2147483648, 2147483655), (0, 4294967295, 0)])
def an756 : e2_Q1 := (ac175, ac3)
def an757 : e2_Q2 := (an0, an756)
def an758 : e2_Q3 := (an757, an5)
def an759 : e2_Q4 := (an758, an13)
def an760 : e2_Q5 := (an759, an533)
def an761 : e2_Q6 := (an760, an744)
def an762 : e2_Q7 := (an761, an612)
def an763 : e2_Q8 := (an762, an754)
noncomputable def f_a197 : ev_H := (an763 : e2_Q8)
noncomputable def q_a197_0 : ev_H := (an763 : e2_Q8)
noncomputable def rs_a197 : e2_Rs := [((11, 2147483648, 2147483649), q_a197_0)]
noncomputable def s_a197 : e2_Sm := (81, as_a197, E_a197, f_a197, rs_a197)
noncomputable def S_a197 : List e2_Sm := [s_a196]
noncomputable def I_a197 : List e2_In := [(64, 2, e2x_64)]
set_option maxRecDepth 1000000 in
theorem co_a197 : e2_okSB E_a197.length as_a197 f_a197 rs_a197 = true := by decide +kernel
def al_a197_0 : List ev_V := [(2, 59, 0), (0, 1, 0), (11, 2147483648, 2147483668), (11, 0, 4294967295), (11, 2147483648, 2147483655), (1, 1, 4294967296), (9, 0, 0)]
def E_a197_0 : e2_E := [(2147483648, 2147583648, 0, 0), (2147483648, 2147483669, 1, 0)]
noncomputable def h_a197_0 : ev_H := (an763 : e2_Q8)
noncomputable def cl_a197_e : List (Nat × e2_S) := [(51, e2_cutL (al_a197_0.set 5 (11, 2147483648, 2147483669)) 1 (E_a197_0.take 1) h_a197_0)]
set_option maxRecDepth 1000000 in
theorem ck_a197_e : e2_run (e2_cal S_a197 I_a197 4000 1) (e2_fin rs_a197) e2x_81 (e2_bpL cl_a197_e) (e2_cutA cl_a197_e) 4000 (e2_seek e2x_81 0) (e2_al 7 as_a197) [] E_a197 f_a197 = true := by decide +kernel
noncomputable def cl_a197_0 : List (Nat × e2_S) := [(51, e2_cutL (al_a197_0.set 5 (13, 9, 2147483669)) 1 (E_a197_0.take 1) h_a197_0)]
set_option maxRecDepth 1000000 in
theorem ck_a197_0 : e2_runM (e2_cal S_a197 I_a197 4000 1) (e2_fin rs_a197) e2x_81 (e2_bpL cl_a197_0) (e2_cutA cl_a197_0) 4000 (e2_seek e2x_81 51) al_a197_0 [] E_a197_0 h_a197_0 = true := by decide +kernel
set_option maxRecDepth 1000000 in
theorem ci_a197_0 : e2_idl 1 (al_a197_0.set 5 (9, 0, 0)) = true := by decide +kernel
set_option maxRecDepth 1000000 in
theorem cj_a197_0 : e2_idh 1 8 h_a197_0 = true := by decide +kernel
theorem cs_a197 (hen : en_ok) (l : Launch) : e2_smOk l 10 s_a197 := by
  refine e2_conG (H := 8) (n := 1) (C := evd_81) (S := S_a197) (I := I_a197) (fuel := 4000) hen ei_81 (e2_fa (cs_a196 hen l) e2_fz) (e2_fa ein_64 e2_fz) (by decide) co_a197 fun M d _ hC hcall p e R s m args below meth c Q D cA A ads r0 ha hl0 => ?_
  have L_0 : e2_gdM M p l e R s m args below meth c Q D cA A ads r0 51 al_a197_0 [] E_a197_0 h_a197_0 := by
    refine e2_indL (u := 1) (j := 5) (lo := 2147483648) (hi := 2147483669) (b := 1) (dd := 0) hl0 (by decide) rfl rfl (Or.inr ⟨rfl, rfl⟩) rfl ci_a197_0 cj_a197_0 ?_
    intro r_0 k_0 hk_0 hp_0 hs_0 hn_0
    have hl_0 : r_0.length ≤ 2 := hs_0.len rfl
    have ha_0 := ha.ext hp_0
    exact e2_fromM hen ha_0 hcall (e2_cutA_ok (e2_fa (fun al st E h hc => hn_0 al st E h hc) e2_fz)) (hC [60, 62]) (X := e2x_81) ex2_81 51 ck_a197_0
  have EN_0 := e2_entL (u := 1) (j := 5) (lo := 2147483648) (hi := 2147483669) hl0 rfl rfl rfl ci_a197_0 cj_a197_0 L_0
  exact e2_from hen ha hcall (e2_cutA_ok (e2_fa (fun al st E h hc => EN_0 al st E h hc) e2_fz)) (hC [60, 62]) (X := e2x_81) ex2_81 0 ck_a197_e
/-! a198 X4_placeFrom -/
def as_a198 : List ev_V := [(2, 59, 0), (0, 0, 0), (0, 0, 0), (0, 0, 0)]
def E_a198 : e2_E := [(2147483648, 2147583648, 0, 0)]
noncomputable def f_a198 : ev_H := (an763 : e2_Q8)
noncomputable def q_a198_0 : ev_H := (an763 : e2_Q8)
noncomputable def rs_a198 : e2_Rs := [((11, 2147483648, 2147483649), q_a198_0)]
noncomputable def s_a198 : e2_Sm := (81, as_a198, E_a198, f_a198, rs_a198)
noncomputable def S_a198 : List e2_Sm := [s_a197]
noncomputable def I_a198 : List e2_In := [(64, 2, e2x_64)]
set_option maxRecDepth 1000000 in
theorem co_a198 : e2_okSB E_a198.length as_a198 f_a198 rs_a198 = true := by decide +kernel
def al_a198_0 : List ev_V := [(2, 59, 0), (0, 0, 0), (0, 0, 0), (0, 0, 0), (11, 2147483648, 2147483655), (1, 1, 4294967296), (9, 0, 0)]
def E_a198_0 : e2_E := [(2147483648, 2147583648, 0, 0), (2147483648, 2147483669, 1, 0)]
noncomputable def h_a198_0 : ev_H := (an763 : e2_Q8)
noncomputable def cl_a198_e : List (Nat × e2_S) := [(51, e2_cutL (al_a198_0.set 5 (11, 2147483648, 2147483669)) 1 (E_a198_0.take 1) h_a198_0)]
set_option maxRecDepth 1000000 in
theorem ck_a198_e : e2_run (e2_cal S_a198 I_a198 4000 1) (e2_fin rs_a198) e2x_81 (e2_bpL cl_a198_e) (e2_cutA cl_a198_e) 4000 (e2_seek e2x_81 0) (e2_al 7 as_a198) [] E_a198 f_a198 = true := by decide +kernel
noncomputable def cl_a198_0 : List (Nat × e2_S) := [(51, e2_cutL (al_a198_0.set 5 (13, 9, 2147483669)) 1 (E_a198_0.take 1) h_a198_0)]
set_option maxRecDepth 1000000 in
theorem ck_a198_0 : e2_runM (e2_cal S_a198 I_a198 4000 1) (e2_fin rs_a198) e2x_81 (e2_bpL cl_a198_0) (e2_cutA cl_a198_0) 4000 (e2_seek e2x_81 51) al_a198_0 [] E_a198_0 h_a198_0 = true := by decide +kernel
set_option maxRecDepth 1000000 in
theorem ci_a198_0 : e2_idl 1 (al_a198_0.set 5 (9, 0, 0)) = true := by decide +kernel
set_option maxRecDepth 1000000 in
theorem cj_a198_0 : e2_idh 1 8 h_a198_0 = true := by decide +kernel
theorem cs_a198 (hen : en_ok) (l : Launch) : e2_smOk l 12 s_a198 := by
  refine e2_conG (H := 10) (n := 1) (C := evd_81) (S := S_a198) (I := I_a198) (fuel := 4000) hen ei_81 (e2_fa (cs_a197 hen l) e2_fz) (e2_fa ein_64 e2_fz) (by decide) co_a198 fun M d _ hC hcall p e R s m args below meth c Q D cA A ads r0 ha hl0 => ?_
  have L_0 : e2_gdM M p l e R s m args below meth c Q D cA A ads r0 51 al_a198_0 [] E_a198_0 h_a198_0 := by
    refine e2_indL (u := 1) (j := 5) (lo := 2147483648) (hi := 2147483669) (b := 1) (dd := 0) hl0 (by decide) rfl rfl (Or.inr ⟨rfl, rfl⟩) rfl ci_a198_0 cj_a198_0 ?_
    intro r_0 k_0 hk_0 hp_0 hs_0 hn_0
    have hl_0 : r_0.length ≤ 2 := hs_0.len rfl
    have ha_0 := ha.ext hp_0
    exact e2_fromM hen ha_0 hcall (e2_cutA_ok (e2_fa (fun al st E h hc => hn_0 al st E h hc) e2_fz)) (hC [60, 62]) (X := e2x_81) ex2_81 51 ck_a198_0
  have EN_0 := e2_entL (u := 1) (j := 5) (lo := 2147483648) (hi := 2147483669) hl0 rfl rfl rfl ci_a198_0 cj_a198_0 L_0
  exact e2_from hen ha hcall (e2_cutA_ok (e2_fa (fun al st E h hc => EN_0 al st E h hc) e2_fz)) (hC [60, 62]) (X := e2x_81) ex2_81 0 ck_a198_e
/-! a199 X4_placeFrom -/
def as_a199 : List ev_V := [(2, 59, 0), (0, 3, 0), (11, 2147483648, 2147483668), (11, 0, 4294967295)]
def E_a199 : e2_E := [(2147483648, 2147583648, 0, 0)]
def ac176 : ev_C := (4, [(2, 65, 0), (2, 63, 0), (2, 1, 0), (11, 0, 4294967295), (2, 62, 0), (11, 0, 4294967295), (11, 2147483648, 2147483668), (2, 60, 0), (11, 2147483648, 2147483668), (11, 0, 4294967295), (11, 0, 4294967295), (2, 61, 0), (2, 64, 0), (0, 3, 0)])
def an764 : e2_Q1 := (ac176, ac3)
def an765 : e2_Q2 := (an764, an216)
def an766 : e2_Q3 := (an214, an765)
def an767 : e2_Q4 := (an211, an766)
def an768 : e2_Q5 := (an345, an767)
def an769 : e2_Q6 := (an768, an602)
def an770 : e2_Q7 := (an621, an769)
def an771 : e2_Q8 := (an613, an770)
noncomputable def f_a199 : ev_H := (an771 : e2_Q8)
noncomputable def q_a199_0 : ev_H := (an771 : e2_Q8)
noncomputable def rs_a199 : e2_Rs := [((11, 2147483648, 2147483649), q_a199_0)]
noncomputable def s_a199 : e2_Sm := (81, as_a199, E_a199, f_a199, rs_a199)
noncomputable def S_a199 : List e2_Sm := [s_a176]
noncomputable def I_a199 : List e2_In := []
set_option maxRecDepth 1000000 in
theorem ck_a199 : e2_run (e2_cal S_a199 I_a199 4000 0) (e2_fin rs_a199) e2x_81 (fun _ => false) (fun _ _ _ _ _ => false) 4000 (e2_seek e2x_81 0) (e2_al 7 as_a199) [] E_a199 f_a199 = true := by decide +kernel
set_option maxRecDepth 1000000 in
theorem co_a199 : e2_okSB E_a199.length as_a199 f_a199 rs_a199 = true := by decide +kernel
theorem cs_a199 (hen : en_ok) (l : Launch) : e2_smOk l 8 s_a199 := e2_con0 (H := 7) (n := 0) (C := evd_81) (S := S_a199) (I := I_a199) (fuel := 4000) [60, 62] hen ei_81 (e2_fa (cs_a176 hen l) e2_fz) e2_fz (by decide) co_a199 ex2_81 ck_a199
/-! a200 X4_placeFrom -/
def as_a200 : List ev_V := [(2, 59, 0), (0, 2, 0), (11, 2147483648, 2147483668), (11, 0, 4294967295)]
def E_a200 : e2_E := [(2147483648, 2147583648, 0, 0)]
def ac177 : ev_C := (50, [(11, 2147483648, 2147483655), (11, 2147483648, 2147483655), (11, 2147483648, 2147483655)])
def an772 : e2_Q1 := (ac177, ac3)
def an773 : e2_Q2 := (an0, an772)
def an774 : e2_Q3 := (an773, an5)
def an775 : e2_Q4 := (an774, an13)
def an776 : e2_Q5 := (an775, an533)
def an777 : e2_Q6 := (an776, an744)
def an778 : e2_Q7 := (an777, an612)
def an779 : e2_Q8 := (an778, an770)
noncomputable def f_a200 : ev_H := (an779 : e2_Q8)
noncomputable def q_a200_0 : ev_H := (an779 : e2_Q8)
noncomputable def rs_a200 : e2_Rs := [((11, 2147483648, 2147483649), q_a200_0)]
noncomputable def s_a200 : e2_Sm := (81, as_a200, E_a200, f_a200, rs_a200)
noncomputable def S_a200 : List e2_Sm := [s_a199]
noncomputable def I_a200 : List e2_In := [(64, 2, e2x_64)]
set_option maxRecDepth 1000000 in
theorem co_a200 : e2_okSB E_a200.length as_a200 f_a200 rs_a200 = true := by decide +kernel
def al_a200_0 : List ev_V := [(2, 59, 0), (0, 2, 0), (11, 2147483648, 2147483668), (11, 0, 4294967295), (11, 2147483648, 2147483655), (1, 1, 4294967296), (9, 0, 0)]
def E_a200_0 : e2_E := [(2147483648, 2147583648, 0, 0), (2147483648, 2147483669, 1, 0)]
noncomputable def h_a200_0 : ev_H := (an779 : e2_Q8)
noncomputable def cl_a200_e : List (Nat × e2_S) := [(51, e2_cutL (al_a200_0.set 5 (11, 2147483648, 2147483669)) 1 (E_a200_0.take 1) h_a200_0)]
set_option maxRecDepth 1000000 in
theorem ck_a200_e : e2_run (e2_cal S_a200 I_a200 4000 1) (e2_fin rs_a200) e2x_81 (e2_bpL cl_a200_e) (e2_cutA cl_a200_e) 4000 (e2_seek e2x_81 0) (e2_al 7 as_a200) [] E_a200 f_a200 = true := by decide +kernel
noncomputable def cl_a200_0 : List (Nat × e2_S) := [(51, e2_cutL (al_a200_0.set 5 (13, 9, 2147483669)) 1 (E_a200_0.take 1) h_a200_0)]
set_option maxRecDepth 1000000 in
theorem ck_a200_0 : e2_runM (e2_cal S_a200 I_a200 4000 1) (e2_fin rs_a200) e2x_81 (e2_bpL cl_a200_0) (e2_cutA cl_a200_0) 4000 (e2_seek e2x_81 51) al_a200_0 [] E_a200_0 h_a200_0 = true := by decide +kernel
set_option maxRecDepth 1000000 in
theorem ci_a200_0 : e2_idl 1 (al_a200_0.set 5 (9, 0, 0)) = true := by decide +kernel
set_option maxRecDepth 1000000 in
theorem cj_a200_0 : e2_idh 1 8 h_a200_0 = true := by decide +kernel
theorem cs_a200 (hen : en_ok) (l : Launch) : e2_smOk l 10 s_a200 := by
  refine e2_conG (H := 8) (n := 1) (C := evd_81) (S := S_a200) (I := I_a200) (fuel := 4000) hen ei_81 (e2_fa (cs_a199 hen l) e2_fz) (e2_fa ein_64 e2_fz) (by decide) co_a200 fun M d _ hC hcall p e R s m args below meth c Q D cA A ads r0 ha hl0 => ?_
  have L_0 : e2_gdM M p l e R s m args below meth c Q D cA A ads r0 51 al_a200_0 [] E_a200_0 h_a200_0 := by
    refine e2_indL (u := 1) (j := 5) (lo := 2147483648) (hi := 2147483669) (b := 1) (dd := 0) hl0 (by decide) rfl rfl (Or.inr ⟨rfl, rfl⟩) rfl ci_a200_0 cj_a200_0 ?_
    intro r_0 k_0 hk_0 hp_0 hs_0 hn_0
    have hl_0 : r_0.length ≤ 2 := hs_0.len rfl
    have ha_0 := ha.ext hp_0
    exact e2_fromM hen ha_0 hcall (e2_cutA_ok (e2_fa (fun al st E h hc => hn_0 al st E h hc) e2_fz)) (hC [60, 62]) (X := e2x_81) ex2_81 51 ck_a200_0
  have EN_0 := e2_entL (u := 1) (j := 5) (lo := 2147483648) (hi := 2147483669) hl0 rfl rfl rfl ci_a200_0 cj_a200_0 L_0
  exact e2_from hen ha hcall (e2_cutA_ok (e2_fa (fun al st E h hc => EN_0 al st E h hc) e2_fz)) (hC [60, 62]) (X := e2x_81) ex2_81 0 ck_a200_e
/-! a201 X4_placeFrom -/
def as_a201 : List ev_V := [(2, 59, 0), (0, 1, 0), (11, 2147483648, 2147483668), (11, 0, 4294967295)]
def E_a201 : e2_E := [(2147483648, 2147583648, 0, 0)]
noncomputable def f_a201 : ev_H := (an779 : e2_Q8)
noncomputable def q_a201_0 : ev_H := (an779 : e2_Q8)
noncomputable def rs_a201 : e2_Rs := [((11, 2147483648, 2147483649), q_a201_0)]
noncomputable def s_a201 : e2_Sm := (81, as_a201, E_a201, f_a201, rs_a201)
noncomputable def S_a201 : List e2_Sm := [s_a200]
noncomputable def I_a201 : List e2_In := [(64, 2, e2x_64)]
set_option maxRecDepth 1000000 in
theorem co_a201 : e2_okSB E_a201.length as_a201 f_a201 rs_a201 = true := by decide +kernel
def al_a201_0 : List ev_V := [(2, 59, 0), (0, 1, 0), (11, 2147483648, 2147483668), (11, 0, 4294967295), (11, 2147483648, 2147483655), (1, 1, 4294967296), (9, 0, 0)]
def E_a201_0 : e2_E := [(2147483648, 2147583648, 0, 0), (2147483648, 2147483669, 1, 0)]
noncomputable def h_a201_0 : ev_H := (an779 : e2_Q8)
noncomputable def cl_a201_e : List (Nat × e2_S) := [(51, e2_cutL (al_a201_0.set 5 (11, 2147483648, 2147483669)) 1 (E_a201_0.take 1) h_a201_0)]
set_option maxRecDepth 1000000 in
theorem ck_a201_e : e2_run (e2_cal S_a201 I_a201 4000 1) (e2_fin rs_a201) e2x_81 (e2_bpL cl_a201_e) (e2_cutA cl_a201_e) 4000 (e2_seek e2x_81 0) (e2_al 7 as_a201) [] E_a201 f_a201 = true := by decide +kernel
noncomputable def cl_a201_0 : List (Nat × e2_S) := [(51, e2_cutL (al_a201_0.set 5 (13, 9, 2147483669)) 1 (E_a201_0.take 1) h_a201_0)]
set_option maxRecDepth 1000000 in
theorem ck_a201_0 : e2_runM (e2_cal S_a201 I_a201 4000 1) (e2_fin rs_a201) e2x_81 (e2_bpL cl_a201_0) (e2_cutA cl_a201_0) 4000 (e2_seek e2x_81 51) al_a201_0 [] E_a201_0 h_a201_0 = true := by decide +kernel
set_option maxRecDepth 1000000 in
theorem ci_a201_0 : e2_idl 1 (al_a201_0.set 5 (9, 0, 0)) = true := by decide +kernel
set_option maxRecDepth 1000000 in
theorem cj_a201_0 : e2_idh 1 8 h_a201_0 = true := by decide +kernel
theorem cs_a201 (hen : en_ok) (l : Launch) : e2_smOk l 12 s_a201 := by
  refine e2_conG (H := 10) (n := 1) (C := evd_81) (S := S_a201) (I := I_a201) (fuel := 4000) hen ei_81 (e2_fa (cs_a200 hen l) e2_fz) (e2_fa ein_64 e2_fz) (by decide) co_a201 fun M d _ hC hcall p e R s m args below meth c Q D cA A ads r0 ha hl0 => ?_
  have L_0 : e2_gdM M p l e R s m args below meth c Q D cA A ads r0 51 al_a201_0 [] E_a201_0 h_a201_0 := by
    refine e2_indL (u := 1) (j := 5) (lo := 2147483648) (hi := 2147483669) (b := 1) (dd := 0) hl0 (by decide) rfl rfl (Or.inr ⟨rfl, rfl⟩) rfl ci_a201_0 cj_a201_0 ?_
    intro r_0 k_0 hk_0 hp_0 hs_0 hn_0
    have hl_0 : r_0.length ≤ 2 := hs_0.len rfl
    have ha_0 := ha.ext hp_0
    exact e2_fromM hen ha_0 hcall (e2_cutA_ok (e2_fa (fun al st E h hc => hn_0 al st E h hc) e2_fz)) (hC [60, 62]) (X := e2x_81) ex2_81 51 ck_a201_0
  have EN_0 := e2_entL (u := 1) (j := 5) (lo := 2147483648) (hi := 2147483669) hl0 rfl rfl rfl ci_a201_0 cj_a201_0 L_0
  exact e2_from hen ha hcall (e2_cutA_ok (e2_fa (fun al st E h hc => EN_0 al st E h hc) e2_fz)) (hC [60, 62]) (X := e2x_81) ex2_81 0 ck_a201_e
/-! a202 X4_placeFrom -/
def as_a202 : List ev_V := [(2, 59, 0), (0, 0, 0), (0, 0, 0), (0, 0, 0)]
def E_a202 : e2_E := [(2147483648, 2147583648, 0, 0)]
noncomputable def f_a202 : ev_H := (an779 : e2_Q8)
noncomputable def q_a202_0 : ev_H := (an779 : e2_Q8)
noncomputable def rs_a202 : e2_Rs := [((11, 2147483648, 2147483649), q_a202_0)]
noncomputable def s_a202 : e2_Sm := (81, as_a202, E_a202, f_a202, rs_a202)
noncomputable def S_a202 : List e2_Sm := [s_a201]
noncomputable def I_a202 : List e2_In := [(64, 2, e2x_64)]
set_option maxRecDepth 1000000 in
theorem co_a202 : e2_okSB E_a202.length as_a202 f_a202 rs_a202 = true := by decide +kernel
def al_a202_0 : List ev_V := [(2, 59, 0), (0, 0, 0), (0, 0, 0), (0, 0, 0), (11, 2147483648, 2147483655), (1, 1, 4294967296), (9, 0, 0)]
def E_a202_0 : e2_E := [(2147483648, 2147583648, 0, 0), (2147483648, 2147483669, 1, 0)]
noncomputable def h_a202_0 : ev_H := (an779 : e2_Q8)
noncomputable def cl_a202_e : List (Nat × e2_S) := [(51, e2_cutL (al_a202_0.set 5 (11, 2147483648, 2147483669)) 1 (E_a202_0.take 1) h_a202_0)]
set_option maxRecDepth 1000000 in
theorem ck_a202_e : e2_run (e2_cal S_a202 I_a202 4000 1) (e2_fin rs_a202) e2x_81 (e2_bpL cl_a202_e) (e2_cutA cl_a202_e) 4000 (e2_seek e2x_81 0) (e2_al 7 as_a202) [] E_a202 f_a202 = true := by decide +kernel
noncomputable def cl_a202_0 : List (Nat × e2_S) := [(51, e2_cutL (al_a202_0.set 5 (13, 9, 2147483669)) 1 (E_a202_0.take 1) h_a202_0)]
set_option maxRecDepth 1000000 in
theorem ck_a202_0 : e2_runM (e2_cal S_a202 I_a202 4000 1) (e2_fin rs_a202) e2x_81 (e2_bpL cl_a202_0) (e2_cutA cl_a202_0) 4000 (e2_seek e2x_81 51) al_a202_0 [] E_a202_0 h_a202_0 = true := by decide +kernel
set_option maxRecDepth 1000000 in
theorem ci_a202_0 : e2_idl 1 (al_a202_0.set 5 (9, 0, 0)) = true := by decide +kernel
set_option maxRecDepth 1000000 in
theorem cj_a202_0 : e2_idh 1 8 h_a202_0 = true := by decide +kernel
theorem cs_a202 (hen : en_ok) (l : Launch) : e2_smOk l 14 s_a202 := by
  refine e2_conG (H := 12) (n := 1) (C := evd_81) (S := S_a202) (I := I_a202) (fuel := 4000) hen ei_81 (e2_fa (cs_a201 hen l) e2_fz) (e2_fa ein_64 e2_fz) (by decide) co_a202 fun M d _ hC hcall p e R s m args below meth c Q D cA A ads r0 ha hl0 => ?_
  have L_0 : e2_gdM M p l e R s m args below meth c Q D cA A ads r0 51 al_a202_0 [] E_a202_0 h_a202_0 := by
    refine e2_indL (u := 1) (j := 5) (lo := 2147483648) (hi := 2147483669) (b := 1) (dd := 0) hl0 (by decide) rfl rfl (Or.inr ⟨rfl, rfl⟩) rfl ci_a202_0 cj_a202_0 ?_
    intro r_0 k_0 hk_0 hp_0 hs_0 hn_0
    have hl_0 : r_0.length ≤ 2 := hs_0.len rfl
    have ha_0 := ha.ext hp_0
    exact e2_fromM hen ha_0 hcall (e2_cutA_ok (e2_fa (fun al st E h hc => hn_0 al st E h hc) e2_fz)) (hC [60, 62]) (X := e2x_81) ex2_81 51 ck_a202_0
  have EN_0 := e2_entL (u := 1) (j := 5) (lo := 2147483648) (hi := 2147483669) hl0 rfl rfl rfl ci_a202_0 cj_a202_0 L_0
  exact e2_from hen ha hcall (e2_cutA_ok (e2_fa (fun al st E h hc => EN_0 al st E h hc) e2_fz)) (hC [60, 62]) (X := e2x_81) ex2_81 0 ck_a202_e
/-! a203 X4_placeFor -/
def as_a203 : List ev_V := [(2, 59, 0), (11, 2147483648, 2147483655), (11, 2147483647, 2147483655), (11, 2147483647, 2147483655)]
def E_a203 : e2_E := [(2147483648, 2147583648, 0, 0)]
def ac178 : ev_C := (50, [(11, 2147483647, 2147483655), (11, 2147483647, 2147483655), (11, 2147483647, 2147483655)])
def an780 : e2_Q1 := (ac178, ac3)
def an781 : e2_Q2 := (an0, an780)
def an782 : e2_Q3 := (an781, an5)
def an783 : e2_Q4 := (an782, an13)
def an784 : e2_Q5 := (an783, an533)
def an785 : e2_Q6 := (an784, an744)
def an786 : e2_Q7 := (an785, an612)
def an787 : e2_Q6 := (an682, an602)
def an788 : e2_Q7 := (an621, an787)
def an789 : e2_Q8 := (an786, an788)
noncomputable def f_a203 : ev_H := (an789 : e2_Q8)
def ac179 : ev_C := (50, [(11, 2147483648, 2147483655), (11, 2147483647, 2147483655), (11, 2147483647, 2147483655)])
def an790 : e2_Q1 := (ac179, ac3)
def an791 : e2_Q2 := (an0, an790)
def an792 : e2_Q3 := (an791, an5)
def an793 : e2_Q4 := (an792, an13)
def an794 : e2_Q5 := (an793, an533)
def an795 : e2_Q6 := (an794, an744)
def an796 : e2_Q7 := (an795, an612)
def ac180 : ev_C := (4, [(2, 65, 0), (2, 63, 0), (2, 1, 0), (11, 0, 4294967295), (2, 62, 0), (11, 0, 4294967295), (11, 2147483648, 2147483668), (2, 60, 0), (11, 2147483648, 2147483668), (11, 0, 4294967295), (11, 0, 4294967295), (2, 61, 0), (2, 64, 0), (11, 2147483649, 2147483651)])
def an797 : e2_Q1 := (ac180, ac3)
def an798 : e2_Q2 := (an797, an216)
def an799 : e2_Q3 := (an214, an798)
def an800 : e2_Q4 := (an211, an799)
def an801 : e2_Q5 := (an345, an800)
def an802 : e2_Q6 := (an801, an602)
def an803 : e2_Q7 := (an621, an802)
def an804 : e2_Q8 := (an796, an803)
noncomputable def q_a203_0 : ev_H := (an804 : e2_Q8)
noncomputable def rs_a203 : e2_Rs := [((11, 2147483647, 2147483837), q_a203_0)]
noncomputable def s_a203 : e2_Sm := (80, as_a203, E_a203, f_a203, rs_a203)
noncomputable def S_a203 : List e2_Sm := [s_a195, s_a198, s_a202]
noncomputable def I_a203 : List e2_In := [(122, 2, e2x_122), (159, 2, e2x_159), (291, 1, e2x_291)]
set_option maxRecDepth 1000000 in
theorem ck_a203 : e2_run (e2_cal S_a203 I_a203 4000 2) (e2_fin rs_a203) e2x_80 (fun _ => false) (fun _ _ _ _ _ => false) 4000 (e2_seek e2x_80 0) (e2_al 6 as_a203) [] E_a203 f_a203 = true := by decide +kernel
set_option maxRecDepth 1000000 in
theorem co_a203 : e2_okSB E_a203.length as_a203 f_a203 rs_a203 = true := by decide +kernel
theorem cs_a203 (hen : en_ok) (l : Launch) : e2_smOk l 17 s_a203 := e2_con0 (H := 14) (n := 2) (C := evd_80) (S := S_a203) (I := I_a203) (fuel := 4000) [] hen ei_80 (e2_fa ((cs_a195 hen l).mono (by decide)) (e2_fa ((cs_a198 hen l).mono (by decide)) (e2_fa (cs_a202 hen l) e2_fz))) (e2_fa ein_122 (e2_fa ein_159 (e2_fa ein_291 e2_fz))) (by decide) co_a203 ex2_80 ck_a203
/-! a204 X4_harmfulCells -/
def as_a204 : List ev_V := [(2, 59, 0)]
def E_a204 : e2_E := [(2147483648, 2147583648, 0, 0)]
noncomputable def f_a204 : ev_H := (an655 : e2_Q8)
noncomputable def q_a204_0 : ev_H := (an655 : e2_Q8)
noncomputable def rs_a204 : e2_Rs := [((11, 0, 4294967295), q_a204_0)]
noncomputable def s_a204 : e2_Sm := (82, as_a204, E_a204, f_a204, rs_a204)
noncomputable def S_a204 : List e2_Sm := [s_a178]
noncomputable def I_a204 : List e2_In := [(159, 2, e2x_159)]
set_option maxRecDepth 1000000 in
theorem co_a204 : e2_okSB E_a204.length as_a204 f_a204 rs_a204 = true := by decide +kernel
def al_a204_0 : List ev_V := [(2, 59, 0), (11, 0, 4294967295), (1, 1, 4294967296)]
def E_a204_0 : e2_E := [(2147483648, 2147583648, 0, 0), (2147483648, 2147483668, 1, 0)]
noncomputable def h_a204_0 : ev_H := (an655 : e2_Q8)
noncomputable def cl_a204_e : List (Nat × e2_S) := [(4, e2_cutL (al_a204_0.set 2 (11, 2147483648, 2147483668)) 1 (E_a204_0.take 1) h_a204_0)]
set_option maxRecDepth 1000000 in
theorem ck_a204_e : e2_run (e2_cal S_a204 I_a204 4000 1) (e2_fin rs_a204) e2x_82 (e2_bpL cl_a204_e) (e2_cutA cl_a204_e) 4000 (e2_seek e2x_82 0) (e2_al 3 as_a204) [] E_a204 f_a204 = true := by decide +kernel
noncomputable def cl_a204_0 : List (Nat × e2_S) := [(4, e2_cutL (al_a204_0.set 2 (13, 9, 2147483668)) 1 (E_a204_0.take 1) h_a204_0)]
set_option maxRecDepth 1000000 in
theorem ck_a204_0 : e2_runM (e2_cal S_a204 I_a204 4000 1) (e2_fin rs_a204) e2x_82 (e2_bpL cl_a204_0) (e2_cutA cl_a204_0) 4000 (e2_seek e2x_82 4) al_a204_0 [] E_a204_0 h_a204_0 = true := by decide +kernel
set_option maxRecDepth 1000000 in
theorem ci_a204_0 : e2_idl 1 (al_a204_0.set 2 (9, 0, 0)) = true := by decide +kernel
set_option maxRecDepth 1000000 in
theorem cj_a204_0 : e2_idh 1 8 h_a204_0 = true := by decide +kernel
theorem cs_a204 (hen : en_ok) (l : Launch) (hh : e2_hand_a l) : e2_smOk l 63 s_a204 := by
  refine e2_conG (H := 61) (n := 1) (C := evd_82) (S := S_a204) (I := I_a204) (fuel := 4000) hen ei_82 (e2_fa (cs_a178 hen l hh) e2_fz) (e2_fa ein_159 e2_fz) (by decide) co_a204 fun M d _ hC hcall p e R s m args below meth c Q D cA A ads r0 ha hl0 => ?_
  have L_0 : e2_gdM M p l e R s m args below meth c Q D cA A ads r0 4 al_a204_0 [] E_a204_0 h_a204_0 := by
    refine e2_indL (u := 1) (j := 2) (lo := 2147483648) (hi := 2147483668) (b := 1) (dd := 0) hl0 (by decide) rfl rfl (Or.inr ⟨rfl, rfl⟩) rfl ci_a204_0 cj_a204_0 ?_
    intro r_0 k_0 hk_0 hp_0 hs_0 hn_0
    have hl_0 : r_0.length ≤ 2 := hs_0.len rfl
    have ha_0 := ha.ext hp_0
    exact e2_fromM hen ha_0 hcall (e2_cutA_ok (e2_fa (fun al st E h hc => hn_0 al st E h hc) e2_fz)) (hC []) (X := e2x_82) ex2_82 4 ck_a204_0
  have EN_0 := e2_entL (u := 1) (j := 2) (lo := 2147483648) (hi := 2147483668) hl0 rfl rfl rfl ci_a204_0 cj_a204_0 L_0
  exact e2_from hen ha hcall (e2_cutA_ok (e2_fa (fun al st E h hc => EN_0 al st E h hc) e2_fz)) (hC []) (X := e2x_82) ex2_82 0 ck_a204_e
/-! a205 X4_losingCells -/
def as_a205 : List ev_V := [(2, 59, 0), (11, 2147483648, 2147483651)]
def E_a205 : e2_E := [(2147483648, 2147583648, 0, 0)]
noncomputable def f_a205 : ev_H := (an665 : e2_Q8)
noncomputable def q_a205_0 : ev_H := (an665 : e2_Q8)
noncomputable def rs_a205 : e2_Rs := [((11, 0, 4294967295), q_a205_0)]
noncomputable def s_a205 : e2_Sm := (83, as_a205, E_a205, f_a205, rs_a205)
noncomputable def S_a205 : List e2_Sm := [s_a180]
noncomputable def I_a205 : List e2_In := [(159, 2, e2x_159)]
set_option maxRecDepth 1000000 in
theorem co_a205 : e2_okSB E_a205.length as_a205 f_a205 rs_a205 = true := by decide +kernel
def al_a205_0 : List ev_V := [(2, 59, 0), (11, 2147483648, 2147483651), (11, 0, 4294967295), (11, 0, 4294967295), (1, 1, 4294967296)]
def E_a205_0 : e2_E := [(2147483648, 2147583648, 0, 0), (2147483648, 2147483668, 1, 0)]
noncomputable def h_a205_0 : ev_H := (an665 : e2_Q8)
noncomputable def cl_a205_e : List (Nat × e2_S) := [(15, e2_cutL (al_a205_0.set 4 (11, 2147483648, 2147483668)) 1 (E_a205_0.take 1) h_a205_0)]
set_option maxRecDepth 1000000 in
theorem ck_a205_e : e2_run (e2_cal S_a205 I_a205 4000 1) (e2_fin rs_a205) e2x_83 (e2_bpL cl_a205_e) (e2_cutA cl_a205_e) 4000 (e2_seek e2x_83 0) (e2_al 5 as_a205) [] E_a205 f_a205 = true := by decide +kernel
noncomputable def cl_a205_0 : List (Nat × e2_S) := [(15, e2_cutL (al_a205_0.set 4 (13, 9, 2147483668)) 1 (E_a205_0.take 1) h_a205_0)]
set_option maxRecDepth 1000000 in
theorem ck_a205_0 : e2_runM (e2_cal S_a205 I_a205 4000 1) (e2_fin rs_a205) e2x_83 (e2_bpL cl_a205_0) (e2_cutA cl_a205_0) 4000 (e2_seek e2x_83 15) al_a205_0 [] E_a205_0 h_a205_0 = true := by decide +kernel
set_option maxRecDepth 1000000 in
theorem ci_a205_0 : e2_idl 1 (al_a205_0.set 4 (9, 0, 0)) = true := by decide +kernel
set_option maxRecDepth 1000000 in
theorem cj_a205_0 : e2_idh 1 8 h_a205_0 = true := by decide +kernel
theorem cs_a205 (hen : en_ok) (l : Launch) (hh : e2_hand_a l) : e2_smOk l 63 s_a205 := by
  refine e2_conG (H := 61) (n := 1) (C := evd_83) (S := S_a205) (I := I_a205) (fuel := 4000) hen ei_83 (e2_fa (cs_a180 hen l hh) e2_fz) (e2_fa ein_159 e2_fz) (by decide) co_a205 fun M d _ hC hcall p e R s m args below meth c Q D cA A ads r0 ha hl0 => ?_
  have L_0 : e2_gdM M p l e R s m args below meth c Q D cA A ads r0 15 al_a205_0 [] E_a205_0 h_a205_0 := by
    refine e2_indL (u := 1) (j := 4) (lo := 2147483648) (hi := 2147483668) (b := 1) (dd := 0) hl0 (by decide) rfl rfl (Or.inr ⟨rfl, rfl⟩) rfl ci_a205_0 cj_a205_0 ?_
    intro r_0 k_0 hk_0 hp_0 hs_0 hn_0
    have hl_0 : r_0.length ≤ 2 := hs_0.len rfl
    have ha_0 := ha.ext hp_0
    exact e2_fromM hen ha_0 hcall (e2_cutA_ok (e2_fa (fun al st E h hc => hn_0 al st E h hc) e2_fz)) (hC []) (X := e2x_83) ex2_83 15 ck_a205_0
  have EN_0 := e2_entL (u := 1) (j := 4) (lo := 2147483648) (hi := 2147483668) hl0 rfl rfl rfl ci_a205_0 cj_a205_0 L_0
  exact e2_from hen ha hcall (e2_cutA_ok (e2_fa (fun al st E h hc => EN_0 al st E h hc) e2_fz)) (hC []) (X := e2x_83) ex2_83 0 ck_a205_e
/-! a206 X4_worstReply -/
def as_a206 : List ev_V := [(2, 59, 0), (11, 2147483648, 2147483651), (11, 0, 4294967295), (11, 0, 4294967295)]
def E_a206 : e2_E := [(2147483648, 2147583648, 0, 0)]
noncomputable def f_a206 : ev_H := (an665 : e2_Q8)
noncomputable def q_a206_0 : ev_H := (an665 : e2_Q8)
noncomputable def rs_a206 : e2_Rs := [((11, 2147483647, 2147483667), q_a206_0)]
noncomputable def s_a206 : e2_Sm := (85, as_a206, E_a206, f_a206, rs_a206)
noncomputable def S_a206 : List e2_Sm := [s_a180]
noncomputable def I_a206 : List e2_In := [(159, 2, e2x_159)]
set_option maxRecDepth 1000000 in
theorem co_a206 : e2_okSB E_a206.length as_a206 f_a206 rs_a206 = true := by decide +kernel
def al_a206_0 : List ev_V := [(2, 59, 0), (11, 2147483648, 2147483651), (11, 0, 4294967295), (11, 0, 4294967295), (11, 2147483647, 2147483667), (11, 0, 4294967295), (1, 1, 4294967296), (9, 0, 0)]
def E_a206_0 : e2_E := [(2147483648, 2147583648, 0, 0), (2147483648, 2147483668, 1, 0)]
noncomputable def h_a206_0 : ev_H := (an665 : e2_Q8)
noncomputable def cl_a206_e : List (Nat × e2_S) := [(9, e2_cutL (al_a206_0.set 6 (11, 2147483648, 2147483668)) 1 (E_a206_0.take 1) h_a206_0)]
set_option maxRecDepth 1000000 in
theorem ck_a206_e : e2_run (e2_cal S_a206 I_a206 4000 1) (e2_fin rs_a206) e2x_85 (e2_bpL cl_a206_e) (e2_cutA cl_a206_e) 4000 (e2_seek e2x_85 0) (e2_al 8 as_a206) [] E_a206 f_a206 = true := by decide +kernel
noncomputable def cl_a206_0 : List (Nat × e2_S) := [(9, e2_cutL (al_a206_0.set 6 (13, 9, 2147483668)) 1 (E_a206_0.take 1) h_a206_0)]
set_option maxRecDepth 1000000 in
theorem ck_a206_0 : e2_runM (e2_cal S_a206 I_a206 4000 1) (e2_fin rs_a206) e2x_85 (e2_bpL cl_a206_0) (e2_cutA cl_a206_0) 4000 (e2_seek e2x_85 9) al_a206_0 [] E_a206_0 h_a206_0 = true := by decide +kernel
set_option maxRecDepth 1000000 in
theorem ci_a206_0 : e2_idl 1 (al_a206_0.set 6 (9, 0, 0)) = true := by decide +kernel
set_option maxRecDepth 1000000 in
theorem cj_a206_0 : e2_idh 1 8 h_a206_0 = true := by decide +kernel
theorem cs_a206 (hen : en_ok) (l : Launch) (hh : e2_hand_a l) : e2_smOk l 63 s_a206 := by
  refine e2_conG (H := 61) (n := 1) (C := evd_85) (S := S_a206) (I := I_a206) (fuel := 4000) hen ei_85 (e2_fa (cs_a180 hen l hh) e2_fz) (e2_fa ein_159 e2_fz) (by decide) co_a206 fun M d _ hC hcall p e R s m args below meth c Q D cA A ads r0 ha hl0 => ?_
  have L_0 : e2_gdM M p l e R s m args below meth c Q D cA A ads r0 9 al_a206_0 [] E_a206_0 h_a206_0 := by
    refine e2_indL (u := 1) (j := 6) (lo := 2147483648) (hi := 2147483668) (b := 1) (dd := 0) hl0 (by decide) rfl rfl (Or.inr ⟨rfl, rfl⟩) rfl ci_a206_0 cj_a206_0 ?_
    intro r_0 k_0 hk_0 hp_0 hs_0 hn_0
    have hl_0 : r_0.length ≤ 2 := hs_0.len rfl
    have ha_0 := ha.ext hp_0
    exact e2_fromM hen ha_0 hcall (e2_cutA_ok (e2_fa (fun al st E h hc => hn_0 al st E h hc) e2_fz)) (hC []) (X := e2x_85) ex2_85 9 ck_a206_0
  have EN_0 := e2_entL (u := 1) (j := 6) (lo := 2147483648) (hi := 2147483668) hl0 rfl rfl rfl ci_a206_0 cj_a206_0 L_0
  exact e2_from hen ha hcall (e2_cutA_ok (e2_fa (fun al st E h hc => EN_0 al st E h hc) e2_fz)) (hC []) (X := e2x_85) ex2_85 0 ck_a206_e
/-! a207 X4_fight -/
def as_a207 : List ev_V := [(2, 59, 0), (11, 2147483648, 2147483651), (11, 0, 4294967295), (11, 0, 4294967295), (11, 2147483648, 2147483650)]
def E_a207 : e2_E := [(2147483648, 2147583648, 0, 0)]
noncomputable def f_a207 : ev_H := (an665 : e2_Q8)
noncomputable def q_a207_0 : ev_H := (an665 : e2_Q8)
noncomputable def rs_a207 : e2_Rs := [((11, 0, 4294967295), q_a207_0)]
noncomputable def s_a207 : e2_Sm := (84, as_a207, E_a207, f_a207, rs_a207)
noncomputable def S_a207 : List e2_Sm := [s_a180, s_a206]
noncomputable def I_a207 : List e2_In := [(159, 2, e2x_159)]
set_option maxRecDepth 1000000 in
theorem co_a207 : e2_okSB E_a207.length as_a207 f_a207 rs_a207 = true := by decide +kernel
def al_a207_0 : List ev_V := [(2, 59, 0), (11, 2147483648, 2147483651), (11, 0, 4294967295), (11, 0, 4294967295), (11, 2147483648, 2147483650), (11, 2147483647, 2147483667), (11, 2147483647, 2147483667), (11, 0, 4294967295), (1, 1, 4294967296), (9, 0, 0), (9, 0, 0)]
def E_a207_0 : e2_E := [(2147483648, 2147583648, 0, 0), (2147483648, 2147483668, 1, 0)]
noncomputable def h_a207_0 : ev_H := (an665 : e2_Q8)
noncomputable def cl_a207_e : List (Nat × e2_S) := [(12, e2_cutL (al_a207_0.set 8 (11, 2147483648, 2147483668)) 1 (E_a207_0.take 1) h_a207_0)]
set_option maxRecDepth 1000000 in
theorem ck_a207_e : e2_run (e2_cal S_a207 I_a207 4000 1) (e2_fin rs_a207) e2x_84 (e2_bpL cl_a207_e) (e2_cutA cl_a207_e) 4000 (e2_seek e2x_84 0) (e2_al 11 as_a207) [] E_a207 f_a207 = true := by decide +kernel
noncomputable def cl_a207_0 : List (Nat × e2_S) := [(12, e2_cutL (al_a207_0.set 8 (13, 9, 2147483668)) 1 (E_a207_0.take 1) h_a207_0)]
set_option maxRecDepth 1000000 in
theorem ck_a207_0 : e2_runM (e2_cal S_a207 I_a207 4000 1) (e2_fin rs_a207) e2x_84 (e2_bpL cl_a207_0) (e2_cutA cl_a207_0) 4000 (e2_seek e2x_84 12) al_a207_0 [] E_a207_0 h_a207_0 = true := by decide +kernel
set_option maxRecDepth 1000000 in
theorem ci_a207_0 : e2_idl 1 (al_a207_0.set 8 (9, 0, 0)) = true := by decide +kernel
set_option maxRecDepth 1000000 in
theorem cj_a207_0 : e2_idh 1 8 h_a207_0 = true := by decide +kernel
theorem cs_a207 (hen : en_ok) (l : Launch) (hh : e2_hand_a l) : e2_smOk l 65 s_a207 := by
  refine e2_conG (H := 63) (n := 1) (C := evd_84) (S := S_a207) (I := I_a207) (fuel := 4000) hen ei_84 (e2_fa ((cs_a180 hen l hh).mono (by decide)) (e2_fa (cs_a206 hen l hh) e2_fz)) (e2_fa ein_159 e2_fz) (by decide) co_a207 fun M d _ hC hcall p e R s m args below meth c Q D cA A ads r0 ha hl0 => ?_
  have L_0 : e2_gdM M p l e R s m args below meth c Q D cA A ads r0 12 al_a207_0 [] E_a207_0 h_a207_0 := by
    refine e2_indL (u := 1) (j := 8) (lo := 2147483648) (hi := 2147483668) (b := 1) (dd := 0) hl0 (by decide) rfl rfl (Or.inr ⟨rfl, rfl⟩) rfl ci_a207_0 cj_a207_0 ?_
    intro r_0 k_0 hk_0 hp_0 hs_0 hn_0
    have hl_0 : r_0.length ≤ 2 := hs_0.len rfl
    have ha_0 := ha.ext hp_0
    exact e2_fromM hen ha_0 hcall (e2_cutA_ok (e2_fa (fun al st E h hc => hn_0 al st E h hc) e2_fz)) (hC []) (X := e2x_84) ex2_84 12 ck_a207_0
  have EN_0 := e2_entL (u := 1) (j := 8) (lo := 2147483648) (hi := 2147483668) hl0 rfl rfl rfl ci_a207_0 cj_a207_0 L_0
  exact e2_from hen ha hcall (e2_cutA_ok (e2_fa (fun al st E h hc => EN_0 al st E h hc) e2_fz)) (hC []) (X := e2x_84) ex2_84 0 ck_a207_e
/-! a208 X5_weighEverywhere -/
def as_a208 : List ev_V := [(2, 47, 0), (11, 2147483648, 2147483655), (11, 0, 4294967295)]
def E_a208 : e2_E := [(2147483648, 2147583648, 0, 0)]
def an805 : e2_Q2 := (an518, an11)
def an806 : e2_Q3 := (an9, an805)
def an807 : e2_Q4 := (an6, an806)
def an808 : e2_Q5 := (an807, an29)
def an809 : e2_Q6 := (an808, an354)
def an810 : e2_Q4 := (an277, an107)
def an811 : e2_Q5 := (an810, an123)
def an812 : e2_Q6 := (an342, an811)
def an813 : e2_Q7 := (an809, an812)
def an814 : e2_Q4 := (an716, an359)
def an815 : e2_Q5 := (an814, an156)
def an816 : e2_Q2 := (an583, an159)
def an817 : e2_Q3 := (an816, an163)
def an818 : e2_Q4 := (an817, an171)
def an819 : e2_Q5 := (an818, an365)
def an820 : e2_Q6 := (an815, an819)
def an821 : e2_Q5 := (an235, an322)
def an822 : e2_Q6 := (an372, an821)
def an823 : e2_Q7 := (an820, an822)
def an824 : e2_Q8 := (an813, an823)
noncomputable def f_a208 : ev_H := (an824 : e2_Q8)
noncomputable def q_a208_0 : ev_H := (an824 : e2_Q8)
noncomputable def rs_a208 : e2_Rs := [((9, 0, 0), q_a208_0)]
noncomputable def s_a208 : e2_Sm := (87, as_a208, E_a208, f_a208, rs_a208)
noncomputable def S_a208 : List e2_Sm := [s_a6]
noncomputable def I_a208 : List e2_In := [(121, 5, e2x_121), (160, 2, e2x_160)]
set_option maxRecDepth 1000000 in
theorem co_a208 : e2_okSB E_a208.length as_a208 f_a208 rs_a208 = true := by decide +kernel
def al_a208_0 : List ev_V := [(2, 47, 0), (11, 2147483648, 2147483655), (11, 0, 4294967295), (1, 1, 4294967296)]
def E_a208_0 : e2_E := [(2147483648, 2147583648, 0, 0), (2147483648, 2147483668, 1, 0)]
noncomputable def h_a208_0 : ev_H := (an824 : e2_Q8)
noncomputable def cl_a208_e : List (Nat × e2_S) := [(2, e2_cutL (al_a208_0.set 3 (11, 2147483648, 2147483668)) 1 (E_a208_0.take 1) h_a208_0)]
set_option maxRecDepth 1000000 in
theorem ck_a208_e : e2_run (e2_cal S_a208 I_a208 4000 1) (e2_fin rs_a208) e2x_87 (e2_bpL cl_a208_e) (e2_cutA cl_a208_e) 4000 (e2_seek e2x_87 0) (e2_al 4 as_a208) [] E_a208 f_a208 = true := by decide +kernel
noncomputable def cl_a208_0 : List (Nat × e2_S) := [(2, e2_cutL (al_a208_0.set 3 (13, 9, 2147483668)) 1 (E_a208_0.take 1) h_a208_0)]
set_option maxRecDepth 1000000 in
theorem ck_a208_0 : e2_runM (e2_cal S_a208 I_a208 4000 1) (e2_fin rs_a208) e2x_87 (e2_bpL cl_a208_0) (e2_cutA cl_a208_0) 4000 (e2_seek e2x_87 2) al_a208_0 [] E_a208_0 h_a208_0 = true := by decide +kernel
set_option maxRecDepth 1000000 in
theorem ci_a208_0 : e2_idl 1 (al_a208_0.set 3 (9, 0, 0)) = true := by decide +kernel
set_option maxRecDepth 1000000 in
theorem cj_a208_0 : e2_idh 1 8 h_a208_0 = true := by decide +kernel
theorem cs_a208 (hen : en_ok) (l : Launch) : e2_smOk l 4 s_a208 := by
  refine e2_conG (H := 2) (n := 1) (C := evd_87) (S := S_a208) (I := I_a208) (fuel := 4000) hen ei_87 (e2_fa (cs_a6 hen l) e2_fz) (e2_fa ein_121 (e2_fa ein_160 e2_fz)) (by decide) co_a208 fun M d _ hC hcall p e R s m args below meth c Q D cA A ads r0 ha hl0 => ?_
  have L_0 : e2_gdM M p l e R s m args below meth c Q D cA A ads r0 2 al_a208_0 [] E_a208_0 h_a208_0 := by
    refine e2_indL (u := 1) (j := 3) (lo := 2147483648) (hi := 2147483668) (b := 1) (dd := 0) hl0 (by decide) rfl rfl (Or.inr ⟨rfl, rfl⟩) rfl ci_a208_0 cj_a208_0 ?_
    intro r_0 k_0 hk_0 hp_0 hs_0 hn_0
    have hl_0 : r_0.length ≤ 2 := hs_0.len rfl
    have ha_0 := ha.ext hp_0
    exact e2_fromM hen ha_0 hcall (e2_cutA_ok (e2_fa (fun al st E h hc => hn_0 al st E h hc) e2_fz)) (hC []) (X := e2x_87) ex2_87 2 ck_a208_0
  have EN_0 := e2_entL (u := 1) (j := 3) (lo := 2147483648) (hi := 2147483668) hl0 rfl rfl rfl ci_a208_0 cj_a208_0 L_0
  exact e2_from hen ha hcall (e2_cutA_ok (e2_fa (fun al st E h hc => EN_0 al st E h hc) e2_fz)) (hC []) (X := e2x_87) ex2_87 0 ck_a208_e
/-! a209 X5_begin -/
def as_a209 : List ev_V := [(2, 47, 0), (2, 1, 0), (2, 36, 0), (11, 0, 4294967295)]
def E_a209 : e2_E := [(2147483648, 2147583648, 0, 0)]
def an825 : e2_Q3 := (an33, an536)
def an826 : e2_Q2 := (an530, an42)
def an827 : e2_Q3 := (an40, an826)
def an828 : e2_Q4 := (an825, an827)
def an829 : e2_Q5 := (an828, an353)
def an830 : e2_Q6 := (an808, an829)
def an831 : e2_Q5 := (an270, an92)
def an832 : e2_Q2 := (an530, an105)
def an833 : e2_Q3 := (an103, an832)
def an834 : e2_Q4 := (an277, an833)
def an835 : e2_Q5 := (an834, an123)
def an836 : e2_Q6 := (an831, an835)
def an837 : e2_Q7 := (an830, an836)
def an838 : e2_Q3 := (an816, an550)
def an839 : e2_Q4 := (an838, an171)
def an840 : e2_Q5 := (an839, an365)
def an841 : e2_Q6 := (an815, an840)
def an842 : e2_Q5 := (an311, an371)
def an843 : e2_Q5 := (an558, an336)
def an844 : e2_Q6 := (an842, an843)
def an845 : e2_Q7 := (an841, an844)
def an846 : e2_Q8 := (an837, an845)
noncomputable def f_a209 : ev_H := (an846 : e2_Q8)
def an847 : e2_Q5 := (an558, an322)
def an848 : e2_Q6 := (an842, an847)
def an849 : e2_Q7 := (an841, an848)
def an850 : e2_Q8 := (an837, an849)
noncomputable def q_a209_0 : ev_H := (an850 : e2_Q8)
noncomputable def rs_a209 : e2_Rs := [((9, 0, 0), q_a209_0)]
noncomputable def s_a209 : e2_Sm := (86, as_a209, E_a209, f_a209, rs_a209)
noncomputable def S_a209 : List e2_Sm := [s_a208]
noncomputable def I_a209 : List e2_In := []
set_option maxRecDepth 1000000 in
theorem co_a209 : e2_okSB E_a209.length as_a209 f_a209 rs_a209 = true := by decide +kernel
def al_a209_0 : List ev_V := [(2, 47, 0), (2, 1, 0), (2, 36, 0), (11, 0, 4294967295), (11, 2147483652, 2147483668), (1, 1, 4294967296)]
def E_a209_0 : e2_E := [(2147483648, 2147583648, 0, 0), (2147483648, 2147483656, 1, 0)]
noncomputable def h_a209_0 : ev_H := (an850 : e2_Q8)
noncomputable def cl_a209_e : List (Nat × e2_S) := [(74, e2_cutL (al_a209_0.set 5 (11, 2147483648, 2147483656)) 1 (E_a209_0.take 1) h_a209_0)]
set_option maxRecDepth 1000000 in
theorem ck_a209_e : e2_run (e2_cal S_a209 I_a209 4000 0) (e2_fin rs_a209) e2x_86 (e2_bpL cl_a209_e) (e2_cutA cl_a209_e) 4000 (e2_seek e2x_86 0) (e2_al 6 as_a209) [] E_a209 f_a209 = true := by decide +kernel
noncomputable def cl_a209_0 : List (Nat × e2_S) := [(74, e2_cutL (al_a209_0.set 5 (13, 9, 2147483656)) 1 (E_a209_0.take 1) h_a209_0)]
set_option maxRecDepth 1000000 in
theorem ck_a209_0 : e2_runM (e2_cal S_a209 I_a209 4000 0) (e2_fin rs_a209) e2x_86 (e2_bpL cl_a209_0) (e2_cutA cl_a209_0) 4000 (e2_seek e2x_86 74) al_a209_0 [] E_a209_0 h_a209_0 = true := by decide +kernel
set_option maxRecDepth 1000000 in
theorem ci_a209_0 : e2_idl 1 (al_a209_0.set 5 (9, 0, 0)) = true := by decide +kernel
set_option maxRecDepth 1000000 in
theorem cj_a209_0 : e2_idh 1 8 h_a209_0 = true := by decide +kernel
theorem cs_a209 (hen : en_ok) (l : Launch) : e2_smOk l 5 s_a209 := by
  refine e2_conG (H := 4) (n := 0) (C := evd_86) (S := S_a209) (I := I_a209) (fuel := 4000) hen ei_86 (e2_fa (cs_a208 hen l) e2_fz) e2_fz (by decide) co_a209 fun M d _ hC hcall p e R s m args below meth c Q D cA A ads r0 ha hl0 => ?_
  have L_0 : e2_gdM M p l e R s m args below meth c Q D cA A ads r0 74 al_a209_0 [] E_a209_0 h_a209_0 := by
    refine e2_indL (u := 1) (j := 5) (lo := 2147483648) (hi := 2147483656) (b := 1) (dd := 0) hl0 (by decide) rfl rfl (Or.inr ⟨rfl, rfl⟩) rfl ci_a209_0 cj_a209_0 ?_
    intro r_0 k_0 hk_0 hp_0 hs_0 hn_0
    have hl_0 : r_0.length ≤ 2 := hs_0.len rfl
    have ha_0 := ha.ext hp_0
    exact e2_fromM hen ha_0 hcall (e2_cutA_ok (e2_fa (fun al st E h hc => hn_0 al st E h hc) e2_fz)) (hC []) (X := e2x_86) ex2_86 74 ck_a209_0
  have EN_0 := e2_entL (u := 1) (j := 5) (lo := 2147483648) (hi := 2147483656) hl0 rfl rfl rfl ci_a209_0 cj_a209_0 L_0
  exact e2_from hen ha hcall (e2_cutA_ok (e2_fa (fun al st E h hc => EN_0 al st E h hc) e2_fz)) (hC []) (X := e2x_86) ex2_86 0 ck_a209_e
/-! a210 X5_begin -/
def as_a210 : List ev_V := [(2, 47, 0), (2, 1, 0), (2, 40, 0), (11, 0, 4294967295)]
def E_a210 : e2_E := [(2147483648, 2147583648, 0, 0)]
def ac181 : ev_C := (6, [(11, 0, 4294967295), (11, 0, 4294967295), (11, 0, 4294967295), (2, 42, 0), (2, 41, 0), (2, 43, 0)])
def an851 : e2_Q1 := (ac181, ac3)
def an852 : e2_Q2 := (an851, an19)
def an853 : e2_Q3 := (an17, an852)
def an854 : e2_Q4 := (an853, an28)
def an855 : e2_Q5 := (an807, an854)
def an856 : e2_Q4 := (an37, an827)
def an857 : e2_Q5 := (an856, an353)
def an858 : e2_Q6 := (an855, an857)
def an859 : e2_Q7 := (an858, an836)
def an860 : e2_Q2 := (an549, an146)
def an861 : e2_Q3 := (an144, an860)
def an862 : e2_Q4 := (an861, an155)
def an863 : e2_Q5 := (an814, an862)
def an864 : e2_Q6 := (an863, an819)
def an865 : e2_Q7 := (an864, an844)
def an866 : e2_Q8 := (an859, an865)
noncomputable def f_a210 : ev_H := (an866 : e2_Q8)
def an867 : e2_Q7 := (an864, an848)
def an868 : e2_Q8 := (an859, an867)
noncomputable def q_a210_0 : ev_H := (an868 : e2_Q8)
noncomputable def rs_a210 : e2_Rs := [((9, 0, 0), q_a210_0)]
noncomputable def s_a210 : e2_Sm := (86, as_a210, E_a210, f_a210, rs_a210)
noncomputable def S_a210 : List e2_Sm := [s_a208]
noncomputable def I_a210 : List e2_In := []
set_option maxRecDepth 1000000 in
theorem co_a210 : e2_okSB E_a210.length as_a210 f_a210 rs_a210 = true := by decide +kernel
def al_a210_0 : List ev_V := [(2, 47, 0), (2, 1, 0), (2, 40, 0), (11, 0, 4294967295), (11, 2147483652, 2147483668), (1, 1, 4294967296)]
def E_a210_0 : e2_E := [(2147483648, 2147583648, 0, 0), (2147483648, 2147483656, 1, 0)]
noncomputable def h_a210_0 : ev_H := (an868 : e2_Q8)
noncomputable def cl_a210_e : List (Nat × e2_S) := [(74, e2_cutL (al_a210_0.set 5 (11, 2147483648, 2147483656)) 1 (E_a210_0.take 1) h_a210_0)]
set_option maxRecDepth 1000000 in
theorem ck_a210_e : e2_run (e2_cal S_a210 I_a210 4000 0) (e2_fin rs_a210) e2x_86 (e2_bpL cl_a210_e) (e2_cutA cl_a210_e) 4000 (e2_seek e2x_86 0) (e2_al 6 as_a210) [] E_a210 f_a210 = true := by decide +kernel
noncomputable def cl_a210_0 : List (Nat × e2_S) := [(74, e2_cutL (al_a210_0.set 5 (13, 9, 2147483656)) 1 (E_a210_0.take 1) h_a210_0)]
set_option maxRecDepth 1000000 in
theorem ck_a210_0 : e2_runM (e2_cal S_a210 I_a210 4000 0) (e2_fin rs_a210) e2x_86 (e2_bpL cl_a210_0) (e2_cutA cl_a210_0) 4000 (e2_seek e2x_86 74) al_a210_0 [] E_a210_0 h_a210_0 = true := by decide +kernel
set_option maxRecDepth 1000000 in
theorem ci_a210_0 : e2_idl 1 (al_a210_0.set 5 (9, 0, 0)) = true := by decide +kernel
set_option maxRecDepth 1000000 in
theorem cj_a210_0 : e2_idh 1 8 h_a210_0 = true := by decide +kernel
theorem cs_a210 (hen : en_ok) (l : Launch) : e2_smOk l 5 s_a210 := by
  refine e2_conG (H := 4) (n := 0) (C := evd_86) (S := S_a210) (I := I_a210) (fuel := 4000) hen ei_86 (e2_fa (cs_a208 hen l) e2_fz) e2_fz (by decide) co_a210 fun M d _ hC hcall p e R s m args below meth c Q D cA A ads r0 ha hl0 => ?_
  have L_0 : e2_gdM M p l e R s m args below meth c Q D cA A ads r0 74 al_a210_0 [] E_a210_0 h_a210_0 := by
    refine e2_indL (u := 1) (j := 5) (lo := 2147483648) (hi := 2147483656) (b := 1) (dd := 0) hl0 (by decide) rfl rfl (Or.inr ⟨rfl, rfl⟩) rfl ci_a210_0 cj_a210_0 ?_
    intro r_0 k_0 hk_0 hp_0 hs_0 hn_0
    have hl_0 : r_0.length ≤ 2 := hs_0.len rfl
    have ha_0 := ha.ext hp_0
    exact e2_fromM hen ha_0 hcall (e2_cutA_ok (e2_fa (fun al st E h hc => hn_0 al st E h hc) e2_fz)) (hC []) (X := e2x_86) ex2_86 74 ck_a210_0
  have EN_0 := e2_entL (u := 1) (j := 5) (lo := 2147483648) (hi := 2147483656) hl0 rfl rfl rfl ci_a210_0 cj_a210_0 L_0
  exact e2_from hen ha hcall (e2_cutA_ok (e2_fa (fun al st E h hc => EN_0 al st E h hc) e2_fz)) (hC []) (X := e2x_86) ex2_86 0 ck_a210_e
/-! a211 X5_choose -/
def as_a211 : List ev_V := [(2, 47, 0), (11, 2147483648, 2147483667), (11, 2147483648, 2147483656), (11, 2147483648, 2147483903)]
def E_a211 : e2_E := [(2147483648, 2147583648, 0, 0)]
def an869 : e2_Q2 := (an583, an26)
def an870 : e2_Q3 := (an24, an869)
def an871 : e2_Q4 := (an21, an870)
def an872 : e2_Q5 := (an14, an871)
def an873 : e2_Q5 := (an856, an60)
def an874 : e2_Q6 := (an872, an873)
def an875 : e2_Q4 := (an100, an833)
def an876 : e2_Q5 := (an875, an123)
def an877 : e2_Q6 := (an342, an876)
def an878 : e2_Q7 := (an874, an877)
def an879 : e2_Q4 := (an164, an302)
def an880 : e2_Q5 := (an879, an187)
def an881 : e2_Q6 := (an157, an880)
def an882 : e2_Q2 := (an583, an232)
def an883 : e2_Q3 := (an230, an882)
def an884 : e2_Q4 := (an227, an883)
def an885 : e2_Q5 := (an884, an322)
def an886 : e2_Q6 := (an346, an885)
def an887 : e2_Q7 := (an881, an886)
def an888 : e2_Q8 := (an878, an887)
noncomputable def f_a211 : ev_H := (an888 : e2_Q8)
noncomputable def q_a211_0 : ev_H := (an888 : e2_Q8)
noncomputable def rs_a211 : e2_Rs := [((9, 0, 0), q_a211_0)]
noncomputable def s_a211 : e2_Sm := (93, as_a211, E_a211, f_a211, rs_a211)
noncomputable def S_a211 : List e2_Sm := []
noncomputable def I_a211 : List e2_In := [(159, 2, e2x_159)]
set_option maxRecDepth 1000000 in
theorem co_a211 : e2_okSB E_a211.length as_a211 f_a211 rs_a211 = true := by decide +kernel
def al_a211_0 : List ev_V := [(2, 47, 0), (11, 2147483648, 2147483667), (11, 2147483648, 2147483656), (11, 2147483648, 2147483903), (11, 0, 2148483648), (11, 2147483647, 2147483655), (1, 1, 4294967296)]
def E_a211_0 : e2_E := [(2147483648, 2147583648, 0, 0), (2147483648, 2147483656, 1, 0)]
noncomputable def h_a211_0 : ev_H := (an888 : e2_Q8)
noncomputable def cl_a211_e : List (Nat × e2_S) := [(9, e2_cutL (al_a211_0.set 6 (11, 2147483648, 2147483656)) 1 (E_a211_0.take 1) h_a211_0)]
set_option maxRecDepth 1000000 in
theorem ck_a211_e : e2_run (e2_cal S_a211 I_a211 4000 1) (e2_fin rs_a211) e2x_93 (e2_bpL cl_a211_e) (e2_cutA cl_a211_e) 4000 (e2_seek e2x_93 0) (e2_al 7 as_a211) [] E_a211 f_a211 = true := by decide +kernel
noncomputable def cl_a211_0 : List (Nat × e2_S) := [(9, e2_cutL (al_a211_0.set 6 (13, 9, 2147483656)) 1 (E_a211_0.take 1) h_a211_0)]
set_option maxRecDepth 1000000 in
theorem ck_a211_0 : e2_runM (e2_cal S_a211 I_a211 4000 1) (e2_fin rs_a211) e2x_93 (e2_bpL cl_a211_0) (e2_cutA cl_a211_0) 4000 (e2_seek e2x_93 9) al_a211_0 [] E_a211_0 h_a211_0 = true := by decide +kernel
set_option maxRecDepth 1000000 in
theorem ci_a211_0 : e2_idl 1 (al_a211_0.set 6 (9, 0, 0)) = true := by decide +kernel
set_option maxRecDepth 1000000 in
theorem cj_a211_0 : e2_idh 1 8 h_a211_0 = true := by decide +kernel
theorem cs_a211 (hen : en_ok) (l : Launch) : e2_smOk l 2 s_a211 := by
  refine e2_conG (H := 0) (n := 1) (C := evd_93) (S := S_a211) (I := I_a211) (fuel := 4000) hen ei_93 e2_fz (e2_fa ein_159 e2_fz) (by decide) co_a211 fun M d _ hC hcall p e R s m args below meth c Q D cA A ads r0 ha hl0 => ?_
  have L_0 : e2_gdM M p l e R s m args below meth c Q D cA A ads r0 9 al_a211_0 [] E_a211_0 h_a211_0 := by
    refine e2_indL (u := 1) (j := 6) (lo := 2147483648) (hi := 2147483656) (b := 1) (dd := 0) hl0 (by decide) rfl rfl (Or.inr ⟨rfl, rfl⟩) rfl ci_a211_0 cj_a211_0 ?_
    intro r_0 k_0 hk_0 hp_0 hs_0 hn_0
    have hl_0 : r_0.length ≤ 2 := hs_0.len rfl
    have ha_0 := ha.ext hp_0
    exact e2_fromM hen ha_0 hcall (e2_cutA_ok (e2_fa (fun al st E h hc => hn_0 al st E h hc) e2_fz)) (hC []) (X := e2x_93) ex2_93 9 ck_a211_0
  have EN_0 := e2_entL (u := 1) (j := 6) (lo := 2147483648) (hi := 2147483656) hl0 rfl rfl rfl ci_a211_0 cj_a211_0 L_0
  exact e2_from hen ha hcall (e2_cutA_ok (e2_fa (fun al st E h hc => EN_0 al st E h hc) e2_fz)) (hC []) (X := e2x_93) ex2_93 0 ck_a211_e
/-! a212 X5_settle -/
def as_a212 : List ev_V := [(2, 47, 0), (11, 2147483648, 2147483667)]
def E_a212 : e2_E := [(2147483648, 2147583648, 0, 0)]
def an889 : e2_Q5 := (an807, an871)
def an890 : e2_Q6 := (an889, an873)
def an891 : e2_Q2 := (an583, an79)
def an892 : e2_Q3 := (an891, an83)
def an893 : e2_Q4 := (an892, an91)
def an894 : e2_Q5 := (an270, an893)
def an895 : e2_Q6 := (an894, an835)
def an896 : e2_Q7 := (an890, an895)
def an897 : e2_Q2 := (an583, an143)
def an898 : e2_Q3 := (an897, an147)
def an899 : e2_Q4 := (an898, an155)
def an900 : e2_Q5 := (an717, an899)
def an901 : e2_Q4 := (an817, an302)
def an902 : e2_Q5 := (an901, an187)
def an903 : e2_Q6 := (an900, an902)
def an904 : e2_Q5 := (an311, an219)
def an905 : e2_Q6 := (an904, an885)
def an906 : e2_Q7 := (an903, an905)
def an907 : e2_Q8 := (an896, an906)
noncomputable def f_a212 : ev_H := (an907 : e2_Q8)
noncomputable def q_a212_0 : ev_H := (an907 : e2_Q8)
noncomputable def rs_a212 : e2_Rs := [((9, 0, 0), q_a212_0)]
noncomputable def s_a212 : e2_Sm := (91, as_a212, E_a212, f_a212, rs_a212)
noncomputable def S_a212 : List e2_Sm := [s_a211]
noncomputable def I_a212 : List e2_In := [(90, 5, e2x_90), (92, 4, e2x_92), (121, 5, e2x_121), (159, 2, e2x_159)]
set_option maxRecDepth 1000000 in
theorem co_a212 : e2_okSB E_a212.length as_a212 f_a212 rs_a212 = true := by decide +kernel
def al_a212_0 : List ev_V := [(2, 47, 0), (11, 2147483648, 2147483667), (11, 2147483648, 2147483903), (11, 0, 4294967295), (1, 1, 4294967296)]
def E_a212_0 : e2_E := [(2147483648, 2147583648, 0, 0), (2147483648, 2147483656, 1, 0)]
noncomputable def h_a212_0 : ev_H := (an907 : e2_Q8)
def al_a212_1 : List ev_V := [(2, 47, 0), (11, 2147483648, 2147483667), (11, 2147483648, 2147483903), (11, 0, 4294967295), (1, 1, 4294967296)]
def E_a212_1 : e2_E := [(2147483648, 2147583648, 0, 0), (2147483648, 2147483656, 1, 0)]
noncomputable def h_a212_1 : ev_H := (an907 : e2_Q8)
noncomputable def cl_a212_e : List (Nat × e2_S) := [(40, e2_cutL (al_a212_1.set 4 (11, 2147483648, 2147483656)) 1 (E_a212_1.take 1) h_a212_1)]
set_option maxRecDepth 1000000 in
theorem ck_a212_e : e2_run (e2_cal S_a212 I_a212 4000 2) (e2_fin rs_a212) e2x_91 (e2_bpL cl_a212_e) (e2_cutA cl_a212_e) 4000 (e2_seek e2x_91 0) (e2_al 5 as_a212) [] E_a212 f_a212 = true := by decide +kernel
noncomputable def cl_a212_0 : List (Nat × e2_S) := [(123, e2_cutL (al_a212_0.set 4 (13, 9, 2147483656)) 1 (E_a212_0.take 1) h_a212_0)]
set_option maxRecDepth 1000000 in
theorem ck_a212_0 : e2_runM (e2_cal S_a212 I_a212 4000 2) (e2_fin rs_a212) e2x_91 (e2_bpL cl_a212_0) (e2_cutA cl_a212_0) 4000 (e2_seek e2x_91 123) al_a212_0 [] E_a212_0 h_a212_0 = true := by decide +kernel
set_option maxRecDepth 1000000 in
theorem ci_a212_0 : e2_idl 1 (al_a212_0.set 4 (9, 0, 0)) = true := by decide +kernel
set_option maxRecDepth 1000000 in
theorem cj_a212_0 : e2_idh 1 8 h_a212_0 = true := by decide +kernel
noncomputable def cl_a212_1 : List (Nat × e2_S) := [(123, e2_cutL (al_a212_0.set 4 (11, 2147483648, 2147483656)) 1 (E_a212_0.take 1) h_a212_0),
  (40, e2_cutL (al_a212_1.set 4 (13, 9, 2147483656)) 1 (E_a212_1.take 1) h_a212_1)]
set_option maxRecDepth 1000000 in
theorem ck_a212_1 : e2_runM (e2_cal S_a212 I_a212 4000 2) (e2_fin rs_a212) e2x_91 (e2_bpL cl_a212_1) (e2_cutA cl_a212_1) 4000 (e2_seek e2x_91 40) al_a212_1 [] E_a212_1 h_a212_1 = true := by decide +kernel
set_option maxRecDepth 1000000 in
theorem ci_a212_1 : e2_idl 1 (al_a212_1.set 4 (9, 0, 0)) = true := by decide +kernel
set_option maxRecDepth 1000000 in
theorem cj_a212_1 : e2_idh 1 8 h_a212_1 = true := by decide +kernel
theorem cs_a212 (hen : en_ok) (l : Launch) : e2_smOk l 5 s_a212 := by
  refine e2_conG (H := 2) (n := 2) (C := evd_91) (S := S_a212) (I := I_a212) (fuel := 4000) hen ei_91 (e2_fa (cs_a211 hen l) e2_fz) (e2_fa ein_90 (e2_fa ein_92 (e2_fa ein_121 (e2_fa ein_159 e2_fz)))) (by decide) co_a212 fun M d _ hC hcall p e R s m args below meth c Q D cA A ads r0 ha hl0 => ?_
  have L_0 : e2_gdM M p l e R s m args below meth c Q D cA A ads r0 123 al_a212_0 [] E_a212_0 h_a212_0 := by
    refine e2_indL (u := 1) (j := 4) (lo := 2147483648) (hi := 2147483656) (b := 1) (dd := 0) hl0 (by decide) rfl rfl (Or.inr ⟨rfl, rfl⟩) rfl ci_a212_0 cj_a212_0 ?_
    intro r_0 k_0 hk_0 hp_0 hs_0 hn_0
    have hl_0 : r_0.length ≤ 2 := hs_0.len rfl
    have ha_0 := ha.ext hp_0
    exact e2_fromM hen ha_0 hcall (e2_cutA_ok (e2_fa (fun al st E h hc => hn_0 al st E h hc) e2_fz)) (hC [56, 58, 81]) (X := e2x_91) ex2_91 123 ck_a212_0
  have EN_0 := e2_entL (u := 1) (j := 4) (lo := 2147483648) (hi := 2147483656) hl0 rfl rfl rfl ci_a212_0 cj_a212_0 L_0
  have L_1 : e2_gdM M p l e R s m args below meth c Q D cA A ads r0 40 al_a212_1 [] E_a212_1 h_a212_1 := by
    refine e2_indL (u := 1) (j := 4) (lo := 2147483648) (hi := 2147483656) (b := 1) (dd := 0) hl0 (by decide) rfl rfl (Or.inr ⟨rfl, rfl⟩) rfl ci_a212_1 cj_a212_1 ?_
    intro r_1 k_1 hk_1 hp_1 hs_1 hn_1
    have hl_1 : r_1.length ≤ 2 := hs_1.len rfl
    have ha_1 := ha.ext hp_1
    exact e2_fromM hen ha_1 hcall (e2_cutA_ok (e2_fa (fun al st E h hc => (EN_0 al st E h hc).ext hp_1) (e2_fa (fun al st E h hc => hn_1 al st E h hc) e2_fz))) (hC [56, 58, 81]) (X := e2x_91) ex2_91 40 ck_a212_1
  have EN_1 := e2_entL (u := 1) (j := 4) (lo := 2147483648) (hi := 2147483656) hl0 rfl rfl rfl ci_a212_1 cj_a212_1 L_1
  exact e2_from hen ha hcall (e2_cutA_ok (e2_fa (fun al st E h hc => EN_1 al st E h hc) e2_fz)) (hC [56, 58, 81]) (X := e2x_91) ex2_91 0 ck_a212_e
/-! a213 X5_read -/
def as_a213 : List ev_V := [(2, 47, 0), (11, 0, 4294967295)]
def E_a213 : e2_E := [(2147483648, 2147583648, 0, 0)]
noncomputable def f_a213 : ev_H := (an907 : e2_Q8)
noncomputable def q_a213_0 : ev_H := (an907 : e2_Q8)
noncomputable def rs_a213 : e2_Rs := [((11, 0, 4294967295), q_a213_0)]
noncomputable def s_a213 : e2_Sm := (88, as_a213, E_a213, f_a213, rs_a213)
noncomputable def S_a213 : List e2_Sm := [s_a212]
noncomputable def I_a213 : List e2_In := [(90, 5, e2x_90)]
set_option maxRecDepth 1000000 in
theorem co_a213 : e2_okSB E_a213.length as_a213 f_a213 rs_a213 = true := by decide +kernel
def al_a213_0 : List ev_V := [(2, 47, 0), (11, 0, 4294967295), (11, 0, 4294967295), (1, 1, 4294967296)]
def E_a213_0 : e2_E := [(2147483648, 2147583648, 0, 0), (2147483647, 2147483667, 1, 0)]
noncomputable def h_a213_0 : ev_H := (an907 : e2_Q8)
noncomputable def cl_a213_e : List (Nat × e2_S) := [(38, e2_cutL (al_a213_0.set 3 (11, 2147483647, 2147483667)) 1 (E_a213_0.take 1) h_a213_0)]
set_option maxRecDepth 1000000 in
theorem ck_a213_e : e2_run (e2_cal S_a213 I_a213 4000 1) (e2_fin rs_a213) e2x_88 (e2_bpL cl_a213_e) (e2_cutA cl_a213_e) 4000 (e2_seek e2x_88 0) (e2_al 4 as_a213) [] E_a213 f_a213 = true := by decide +kernel
noncomputable def cl_a213_0 : List (Nat × e2_S) := [(38, e2_cutL (al_a213_0.set 3 (12, 9, 2147483647)) 1 (E_a213_0.take 1) h_a213_0)]
set_option maxRecDepth 1000000 in
theorem ck_a213_0 : e2_runM (e2_cal S_a213 I_a213 4000 1) (e2_fin rs_a213) e2x_88 (e2_bpL cl_a213_0) (e2_cutA cl_a213_0) 4000 (e2_seek e2x_88 38) al_a213_0 [] E_a213_0 h_a213_0 = true := by decide +kernel
set_option maxRecDepth 1000000 in
theorem ci_a213_0 : e2_idl 1 (al_a213_0.set 3 (9, 0, 0)) = true := by decide +kernel
set_option maxRecDepth 1000000 in
theorem cj_a213_0 : e2_idh 1 8 h_a213_0 = true := by decide +kernel
theorem cs_a213 (hen : en_ok) (l : Launch) : e2_smOk l 7 s_a213 := by
  refine e2_conG (H := 5) (n := 1) (C := evd_88) (S := S_a213) (I := I_a213) (fuel := 4000) hen ei_88 (e2_fa (cs_a212 hen l) e2_fz) (e2_fa ein_90 e2_fz) (by decide) co_a213 fun M d _ hC hcall p e R s m args below meth c Q D cA A ads r0 ha hl0 => ?_
  have L_0 : e2_gdM M p l e R s m args below meth c Q D cA A ads r0 38 al_a213_0 [] E_a213_0 h_a213_0 := by
    refine e2_indD (u := 1) (j := 3) (lo := 2147483647) (hi := 2147483667) hl0 (by decide) rfl rfl rfl ci_a213_0 cj_a213_0 ?_
    intro r_0 k_0 hk_0 hp_0 hs_0 hn_0
    have hl_0 : r_0.length ≤ 2 := hs_0.len rfl
    have ha_0 := ha.ext hp_0
    exact e2_fromM hen ha_0 hcall (e2_cutA_ok (e2_fa (fun al st E h hc => hn_0 al st E h hc) e2_fz)) (hC []) (X := e2x_88) ex2_88 38 ck_a213_0
  have EN_0 := e2_entL (u := 1) (j := 3) (lo := 2147483647) (hi := 2147483667) hl0 rfl rfl rfl ci_a213_0 cj_a213_0 L_0
  exact e2_from hen ha hcall (e2_cutA_ok (e2_fa (fun al st E h hc => EN_0 al st E h hc) e2_fz)) (hC []) (X := e2x_88) ex2_88 0 ck_a213_e
