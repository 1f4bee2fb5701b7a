/-! CONTRACTS a, printed by a program -/
/-! a187 X5_weighEverywhere -/
def as_a187 : List ev_V := [(2, 65, 0), (11, 2147483648, 2147483655), (0, 4294967295, 0)]
def E_a187 : e2_E := [(2147483648, 2147583648, 0, 0), (2147483652, 2147483668, 1, 0)]
def an779 : e2_Q4 := (an390, an76)
def an780 : e2_Q5 := (an779, an92)
def an781 : e2_Q6 := (an780, an124)
def an782 : e2_Q7 := (an482, an781)
def an783 : e2_Q5 := (an408, an156)
def an784 : e2_Q6 := (an783, an493)
def an785 : e2_Q7 := (an784, an538)
def an786 : e2_Q8 := (an782, an785)
noncomputable def f_a187 : ev_H := (an786 : e2_Q8)
noncomputable def q_a187_0 : ev_H := (an786 : e2_Q8)
noncomputable def rs_a187 : e2_Rs := [((9, 0, 0), q_a187_0)]
noncomputable def s_a187 : e2_Sm := (87, as_a187, E_a187, f_a187, rs_a187)
noncomputable def S_a187 : List e2_Sm := [s_a13]
noncomputable def I_a187 : List e2_In := [(160, 2, e2x_160)]
set_option maxRecDepth 1000000 in
theorem co_a187 : e2_okSB E_a187.length as_a187 f_a187 rs_a187 = true := by decide +kernel
def al_a187_0 : List ev_V := [(2, 65, 0), (11, 2147483648, 2147483655), (0, 4294967295, 0), (1, 2, 4294967296)]
def E_a187_0 : e2_E := [(2147483648, 2147583648, 0, 0), (2147483652, 2147483668, 1, 0), (2147483648, 2147483668, 2, 0)]
noncomputable def h_a187_0 : ev_H := (an786 : e2_Q8)
noncomputable def cl_a187_e : List (Nat × e2_S) := [(2, e2_cutL (al_a187_0.set 3 (11, 2147483648, 2147483668)) 2 (E_a187_0.take 2) h_a187_0)]
set_option maxRecDepth 1000000 in
theorem ck_a187_e : e2_run (e2_cal S_a187 I_a187 4000 1) (e2_fin rs_a187) e2x_87 (e2_bpL cl_a187_e) (e2_cutA cl_a187_e) 4000 (e2_seek e2x_87 0) (e2_al 4 as_a187) [] E_a187 f_a187 = true := by decide +kernel
noncomputable def cl_a187_0 : List (Nat × e2_S) := [(2, e2_cutL (al_a187_0.set 3 (13, 10, 2147483668)) 2 (E_a187_0.take 2) h_a187_0)]
set_option maxRecDepth 1000000 in
theorem ck_a187_0 : e2_runM (e2_cal S_a187 I_a187 4000 1) (e2_fin rs_a187) e2x_87 (e2_bpL cl_a187_0) (e2_cutA cl_a187_0) 4000 (e2_seek e2x_87 2) al_a187_0 [] E_a187_0 h_a187_0 = true := by decide +kernel
set_option maxRecDepth 1000000 in
theorem ci_a187_0 : e2_idl 2 (al_a187_0.set 3 (9, 0, 0)) = true := by decide +kernel
set_option maxRecDepth 1000000 in
theorem cj_a187_0 : e2_idh 2 8 h_a187_0 = true := by decide +kernel
theorem cs_a187 (hen : en_ok) (l : Launch) : e2_smOk l 4 s_a187 := by
  refine e2_conG (H := 2) (n := 1) (C := evd_87) (S := S_a187) (I := I_a187) (fuel := 4000) hen ei_87 (e2_fa (cs_a13 hen l) e2_fz) (e2_fa ein_160 e2_fz) (by decide) co_a187 fun M d _ hC hcall p e R s m args below meth c Q D cA A ads r0 ha hl0 => ?_
  have L_0 : e2_gdM M p l e R s m args below meth c Q D cA A ads r0 2 al_a187_0 [] E_a187_0 h_a187_0 := by
    refine e2_indL (u := 2) (j := 3) (lo := 2147483648) (hi := 2147483668) (b := 2) (dd := 0) hl0 (by decide) rfl rfl (Or.inr ⟨rfl, rfl⟩) rfl ci_a187_0 cj_a187_0 ?_
    intro r_0 k_0 hk_0 hp_0 hs_0 hn_0
    have hl_0 : r_0.length ≤ 3 := hs_0.len rfl
    have ha_0 := ha.ext hp_0
    exact e2_fromM hen ha_0 hcall (e2_cutA_ok (e2_fa (fun al st E h hc => hn_0 al st E h hc) e2_fz)) (hC []) (X := e2x_87) ex2_87 2 ck_a187_0
  have EN_0 := e2_entL (u := 2) (j := 3) (lo := 2147483648) (hi := 2147483668) hl0 rfl rfl rfl ci_a187_0 cj_a187_0 L_0
  exact e2_from hen ha hcall (e2_cutA_ok (e2_fa (fun al st E h hc => EN_0 al st E h hc) e2_fz)) (hC []) (X := e2x_87) ex2_87 0 ck_a187_e
/-! a188 X5_begin -/
def as_a188 : List ev_V := [(2, 65, 0), (2, 1, 0), (2, 36, 0), (0, 4294967295, 0)]
def E_a188 : e2_E := [(2147483648, 2147583648, 0, 0), (2147483652, 2147483668, 1, 0)]
def an787 : e2_Q3 := (an288, an448)
def an788 : e2_Q4 := (an787, an44)
def an789 : e2_Q5 := (an788, an480)
def an790 : e2_Q6 := (an380, an789)
def an791 : e2_Q5 := (an393, an92)
def an792 : e2_Q6 := (an791, an402)
def an793 : e2_Q7 := (an790, an792)
def ac182 : ev_C := (5, [(2, 68, 0), (11, 0, 4294967295), (2, 69, 0), (2, 72, 0), (7, 0, 0), (2, 70, 0), (11, 2147483648, 2147483649), (2, 67, 0), (11, 2147483648, 2147483668), (2, 71, 0), (2, 66, 0), (2, 73, 0), (2, 74, 0), (2, 75, 0), (2, 76, 0)])
def an794 : e2_Q1 := (ac182, ac3)
def an795 : e2_Q2 := (an321, an794)
def an796 : e2_Q3 := (an795, an132)
def an797 : e2_Q4 := (an796, an140)
def an798 : e2_Q5 := (an797, an156)
def an799 : e2_Q3 := (an691, an463)
def an800 : e2_Q4 := (an799, an337)
def an801 : e2_Q5 := (an800, an492)
def an802 : e2_Q6 := (an798, an801)
def an803 : e2_Q4 := (an535, an342)
def an804 : e2_Q5 := (an803, an498)
def an805 : e2_Q2 := (an700, an335)
def an806 : e2_Q3 := (an805, an226)
def an807 : e2_Q4 := (an806, an234)
def an808 : e2_Q5 := (an807, an250)
def an809 : e2_Q6 := (an804, an808)
def an810 : e2_Q7 := (an802, an809)
def an811 : e2_Q8 := (an793, an810)
noncomputable def f_a188 : ev_H := (an811 : e2_Q8)
def an812 : e2_Q3 := (an381, an448)
def an813 : e2_Q4 := (an812, an44)
def an814 : e2_Q5 := (an813, an480)
def an815 : e2_Q6 := (an380, an814)
def an816 : e2_Q7 := (an815, an792)
def an817 : e2_Q6 := (an783, an801)
def an818 : e2_Q7 := (an817, an809)
def an819 : e2_Q8 := (an816, an818)
noncomputable def q_a188_0 : ev_H := (an819 : e2_Q8)
noncomputable def rs_a188 : e2_Rs := [((9, 0, 0), q_a188_0)]
noncomputable def s_a188 : e2_Sm := (86, as_a188, E_a188, f_a188, rs_a188)
noncomputable def S_a188 : List e2_Sm := [s_a187]
noncomputable def I_a188 : List e2_In := []
set_option maxRecDepth 1000000 in
theorem co_a188 : e2_okSB E_a188.length as_a188 f_a188 rs_a188 = true := by decide +kernel
def al_a188_0 : List ev_V := [(2, 65, 0), (2, 1, 0), (2, 36, 0), (0, 4294967295, 0), (1, 1, 4294967296), (1, 2, 4294967296)]
def E_a188_0 : e2_E := [(2147483648, 2147583648, 0, 0), (2147483652, 2147483668, 1, 0), (2147483648, 2147483656, 2, 0)]
noncomputable def h_a188_0 : ev_H := (an819 : e2_Q8)
noncomputable def cl_a188_e : List (Nat × e2_S) := [(74, e2_cutL (al_a188_0.set 5 (11, 2147483648, 2147483656)) 2 (E_a188_0.take 2) h_a188_0)]
set_option maxRecDepth 1000000 in
theorem ck_a188_e : e2_run (e2_cal S_a188 I_a188 4000 0) (e2_fin rs_a188) e2x_86 (e2_bpL cl_a188_e) (e2_cutA cl_a188_e) 4000 (e2_seek e2x_86 0) (e2_al 6 as_a188) [] E_a188 f_a188 = true := by decide +kernel
noncomputable def cl_a188_0 : List (Nat × e2_S) := [(74, e2_cutL (al_a188_0.set 5 (13, 10, 2147483656)) 2 (E_a188_0.take 2) h_a188_0)]
set_option maxRecDepth 1000000 in
theorem ck_a188_0 : e2_runM (e2_cal S_a188 I_a188 4000 0) (e2_fin rs_a188) e2x_86 (e2_bpL cl_a188_0) (e2_cutA cl_a188_0) 4000 (e2_seek e2x_86 74) al_a188_0 [] E_a188_0 h_a188_0 = true := by decide +kernel
set_option maxRecDepth 1000000 in
theorem ci_a188_0 : e2_idl 2 (al_a188_0.set 5 (9, 0, 0)) = true := by decide +kernel
set_option maxRecDepth 1000000 in
theorem cj_a188_0 : e2_idh 2 8 h_a188_0 = true := by decide +kernel
theorem cs_a188 (hen : en_ok) (l : Launch) : e2_smOk l 5 s_a188 := by
  refine e2_conG (H := 4) (n := 0) (C := evd_86) (S := S_a188) (I := I_a188) (fuel := 4000) hen ei_86 (e2_fa (cs_a187 hen l) e2_fz) e2_fz (by decide) co_a188 fun M d _ hC hcall p e R s m args below meth c Q D cA A ads r0 ha hl0 => ?_
  have L_0 : e2_gdM M p l e R s m args below meth c Q D cA A ads r0 74 al_a188_0 [] E_a188_0 h_a188_0 := by
    refine e2_indL (u := 2) (j := 5) (lo := 2147483648) (hi := 2147483656) (b := 2) (dd := 0) hl0 (by decide) rfl rfl (Or.inr ⟨rfl, rfl⟩) rfl ci_a188_0 cj_a188_0 ?_
    intro r_0 k_0 hk_0 hp_0 hs_0 hn_0
    have hl_0 : r_0.length ≤ 3 := hs_0.len rfl
    have ha_0 := ha.ext hp_0
    exact e2_fromM hen ha_0 hcall (e2_cutA_ok (e2_fa (fun al st E h hc => hn_0 al st E h hc) e2_fz)) (hC []) (X := e2x_86) ex2_86 74 ck_a188_0
  have EN_0 := e2_entL (u := 2) (j := 5) (lo := 2147483648) (hi := 2147483656) hl0 rfl rfl rfl ci_a188_0 cj_a188_0 L_0
  exact e2_from hen ha hcall (e2_cutA_ok (e2_fa (fun al st E h hc => EN_0 al st E h hc) e2_fz)) (hC []) (X := e2x_86) ex2_86 0 ck_a188_e
/-! a189 X4_begin -/
def as_a189 : List ev_V := [(2, 59, 0), (2, 1, 0), (2, 36, 0)]
def E_a189 : e2_E := [(2147483648, 2147583648, 0, 0), (2147483652, 2147483668, 1, 0)]
def ac183 : ev_C := (4, [(2, 65, 0), (2, 63, 0), (7, 0, 0), (11, 0, 4294967295), (2, 62, 0), (11, 0, 4294967295), (11, 2147483648, 2147483668), (2, 60, 0), (11, 2147483648, 2147483668), (11, 0, 4294967295), (11, 0, 4294967295), (2, 61, 0), (2, 64, 0), (11, 2147483648, 2147483651)])
def an820 : e2_Q1 := (ac183, ac3)
def an821 : e2_Q2 := (an820, an216)
def an822 : e2_Q3 := (an214, an821)
def an823 : e2_Q4 := (an497, an822)
def an824 : e2_Q5 := (an803, an823)
def an825 : e2_Q6 := (an824, an808)
def an826 : e2_Q7 := (an802, an825)
def an827 : e2_Q8 := (an793, an826)
noncomputable def f_a189 : ev_H := (an827 : e2_Q8)
def ac184 : ev_C := (4, [(2, 65, 0), (2, 63, 0), (2, 1, 0), (11, 0, 4294967295), (2, 62, 0), (11, 0, 4294967295), (11, 2147483648, 2147483668), (2, 60, 0), (11, 2147483648, 2147483668), (11, 0, 4294967295), (11, 0, 4294967295), (2, 61, 0), (2, 64, 0), (11, 2147483648, 2147483651)])
def an828 : e2_Q1 := (ac184, ac3)
def an829 : e2_Q2 := (an828, an216)
def an830 : e2_Q3 := (an214, an829)
def an831 : e2_Q4 := (an497, an830)
def an832 : e2_Q5 := (an803, an831)
def an833 : e2_Q6 := (an832, an808)
def an834 : e2_Q7 := (an817, an833)
def an835 : e2_Q8 := (an816, an834)
noncomputable def q_a189_0 : ev_H := (an835 : e2_Q8)
noncomputable def rs_a189 : e2_Rs := [((9, 0, 0), q_a189_0)]
noncomputable def s_a189 : e2_Sm := (66, as_a189, E_a189, f_a189, rs_a189)
noncomputable def S_a189 : List e2_Sm := [s_a188]
noncomputable def I_a189 : List e2_In := []
set_option maxRecDepth 1000000 in
theorem ck_a189 : e2_run (e2_cal S_a189 I_a189 4000 0) (e2_fin rs_a189) e2x_66 (fun _ => false) (fun _ _ _ _ _ => false) 4000 (e2_seek e2x_66 0) (e2_al 3 as_a189) [] E_a189 f_a189 = true := by decide +kernel
set_option maxRecDepth 1000000 in
theorem co_a189 : e2_okSB E_a189.length as_a189 f_a189 rs_a189 = true := by decide +kernel
theorem cs_a189 (hen : en_ok) (l : Launch) : e2_smOk l 6 s_a189 := e2_con0 (H := 5) (n := 0) (C := evd_66) (S := S_a189) (I := I_a189) (fuel := 4000) [] hen ei_66 (e2_fa (cs_a188 hen l) e2_fz) e2_fz (by decide) co_a189 ex2_66 ck_a189
/-! a190 X5_takesAway -/
def as_a190 : List ev_V := [(2, 65, 0)]
def E_a190 : e2_E := [(2147483648, 2147583648, 0, 0), (2147483652, 2147483668, 1, 0)]
def an836 : e2_Q2 := (an282, an16)
def an837 : e2_Q3 := (an836, an20)
def an838 : e2_Q4 := (an837, an28)
def an839 : e2_Q5 := (an14, an838)
def an840 : e2_Q5 := (an45, an386)
def an841 : e2_Q6 := (an839, an840)
def an842 : e2_Q7 := (an841, an455)
def an843 : e2_Q5 := (an425, an156)
def an844 : e2_Q6 := (an843, an188)
def an845 : e2_Q7 := (an844, an275)
def an846 : e2_Q8 := (an842, an845)
noncomputable def f_a190 : ev_H := (an846 : e2_Q8)
noncomputable def q_a190_0 : ev_H := (an846 : e2_Q8)
noncomputable def rs_a190 : e2_Rs := [((11, 2147483648, 2147483649), q_a190_0)]
noncomputable def s_a190 : e2_Sm := (96, as_a190, E_a190, f_a190, rs_a190)
noncomputable def S_a190 : List e2_Sm := []
noncomputable def I_a190 : List e2_In := []
set_option maxRecDepth 1000000 in
theorem co_a190 : e2_okSB E_a190.length as_a190 f_a190 rs_a190 = true := by decide +kernel
def al_a190_0 : List ev_V := [(2, 65, 0), (1, 2, 4294967296)]
def E_a190_0 : e2_E := [(2147483648, 2147583648, 0, 0), (2147483652, 2147483668, 1, 0), (2147483648, 2147483668, 2, 0)]
noncomputable def h_a190_0 : ev_H := (an846 : e2_Q8)
noncomputable def cl_a190_e : List (Nat × e2_S) := [(2, e2_cutL (al_a190_0.set 1 (11, 2147483648, 2147483668)) 2 (E_a190_0.take 2) h_a190_0)]
set_option maxRecDepth 1000000 in
theorem ck_a190_e : e2_run (e2_cal S_a190 I_a190 4000 0) (e2_fin rs_a190) e2x_96 (e2_bpL cl_a190_e) (e2_cutA cl_a190_e) 4000 (e2_seek e2x_96 0) (e2_al 2 as_a190) [] E_a190 f_a190 = true := by decide +kernel
noncomputable def cl_a190_0 : List (Nat × e2_S) := [(2, e2_cutL (al_a190_0.set 1 (13, 10, 2147483668)) 2 (E_a190_0.take 2) h_a190_0)]
set_option maxRecDepth 1000000 in
theorem ck_a190_0 : e2_runM (e2_cal S_a190 I_a190 4000 0) (e2_fin rs_a190) e2x_96 (e2_bpL cl_a190_0) (e2_cutA cl_a190_0) 4000 (e2_seek e2x_96 2) al_a190_0 [] E_a190_0 h_a190_0 = true := by decide +kernel
set_option maxRecDepth 1000000 in
theorem ci_a190_0 : e2_idl 2 (al_a190_0.set 1 (9, 0, 0)) = true := by decide +kernel
set_option maxRecDepth 1000000 in
theorem cj_a190_0 : e2_idh 2 8 h_a190_0 = true := by decide +kernel
theorem cs_a190 (hen : en_ok) (l : Launch) : e2_smOk l 1 s_a190 := by
  refine e2_conG (H := 0) (n := 0) (C := evd_96) (S := S_a190) (I := I_a190) (fuel := 4000) hen ei_96 e2_fz e2_fz (by decide) co_a190 fun M d _ hC hcall p e R s m args below meth c Q D cA A ads r0 ha hl0 => ?_
  have L_0 : e2_gdM M p l e R s m args below meth c Q D cA A ads r0 2 al_a190_0 [] E_a190_0 h_a190_0 := by
    refine e2_indL (u := 2) (j := 1) (lo := 2147483648) (hi := 2147483668) (b := 2) (dd := 0) hl0 (by decide) rfl rfl (Or.inr ⟨rfl, rfl⟩) rfl ci_a190_0 cj_a190_0 ?_
    intro r_0 k_0 hk_0 hp_0 hs_0 hn_0
    have hl_0 : r_0.length ≤ 3 := hs_0.len rfl
    have ha_0 := ha.ext hp_0
    exact e2_fromM hen ha_0 hcall (e2_cutA_ok (e2_fa (fun al st E h hc => hn_0 al st E h hc) e2_fz)) (hC []) (X := e2x_96) ex2_96 2 ck_a190_0
  have EN_0 := e2_entL (u := 2) (j := 1) (lo := 2147483648) (hi := 2147483668) hl0 rfl rfl rfl ci_a190_0 cj_a190_0 L_0
  exact e2_from hen ha hcall (e2_cutA_ok (e2_fa (fun al st E h hc => EN_0 al st E h hc) e2_fz)) (hC []) (X := e2x_96) ex2_96 0 ck_a190_e
/-! a191 X4_harms -/
def as_a191 : List ev_V := [(2, 59, 0), (11, 0, 4294967295)]
def E_a191 : e2_E := [(2147483648, 2147583648, 0, 0), (2147483652, 2147483668, 1, 0)]
def an847 : e2_Q2 := (an282, an290)
def an848 : e2_Q3 := (an847, an20)
def an849 : e2_Q4 := (an848, an28)
def an850 : e2_Q5 := (an14, an849)
def an851 : e2_Q6 := (an850, an387)
def an852 : e2_Q7 := (an851, an403)
def an853 : e2_Q4 := (an414, an830)
def an854 : e2_Q5 := (an343, an853)
def an855 : e2_Q6 := (an854, an418)
def an856 : e2_Q7 := (an412, an855)
def an857 : e2_Q8 := (an852, an856)
noncomputable def f_a191 : ev_H := (an857 : e2_Q8)
def an858 : e2_Q6 := (an854, an435)
def an859 : e2_Q7 := (an431, an858)
def an860 : e2_Q8 := (an852, an859)
noncomputable def q_a191_0 : ev_H := (an860 : e2_Q8)
noncomputable def rs_a191 : e2_Rs := [((11, 2147483648, 2147483649), q_a191_0)]
noncomputable def s_a191 : e2_Sm := (67, as_a191, E_a191, f_a191, rs_a191)
noncomputable def S_a191 : List e2_Sm := [s_a5, s_a6, s_a190]
noncomputable def I_a191 : List e2_In := []
set_option maxRecDepth 1000000 in
theorem ck_a191 : e2_run (e2_cal S_a191 I_a191 4000 0) (e2_fin rs_a191) e2x_67 (fun _ => false) (fun _ _ _ _ _ => false) 4000 (e2_seek e2x_67 0) (e2_al 2 as_a191) [] E_a191 f_a191 = true := by decide +kernel
set_option maxRecDepth 1000000 in
theorem co_a191 : e2_okSB E_a191.length as_a191 f_a191 rs_a191 = true := by decide +kernel
theorem cs_a191 (hen : en_ok) (l : Launch) (hh : e2_hand_a l) : e2_smOk l 61 s_a191 := e2_con0 (H := 60) (n := 0) (C := evd_67) (S := S_a191) (I := I_a191) (fuel := 4000) [] hen ei_67 (e2_fa (hh _ hm_a5) (e2_fa (hh _ hm_a6) (e2_fa ((cs_a190 hen l).mono (by decide)) e2_fz))) e2_fz (by decide) co_a191 ex2_67 ck_a191
/-! a192 X4_harms -/
def as_a192 : List ev_V := [(2, 59, 0), (11, 0, 4294967295)]
def E_a192 : e2_E := [(2147483648, 2147583648, 0, 0), (2147483652, 2147483668, 1, 0)]
noncomputable def f_a192 : ev_H := (an860 : e2_Q8)
noncomputable def q_a192_0 : ev_H := (an860 : e2_Q8)
noncomputable def rs_a192 : e2_Rs := [((11, 2147483648, 2147483649), q_a192_0)]
noncomputable def s_a192 : e2_Sm := (67, as_a192, E_a192, f_a192, rs_a192)
noncomputable def S_a192 : List e2_Sm := [s_a6, s_a7, s_a190]
noncomputable def I_a192 : List e2_In := []
set_option maxRecDepth 1000000 in
theorem ck_a192 : e2_run (e2_cal S_a192 I_a192 4000 0) (e2_fin rs_a192) e2x_67 (fun _ => false) (fun _ _ _ _ _ => false) 4000 (e2_seek e2x_67 0) (e2_al 2 as_a192) [] E_a192 f_a192 = true := by decide +kernel
set_option maxRecDepth 1000000 in
theorem co_a192 : e2_okSB E_a192.length as_a192 f_a192 rs_a192 = true := by decide +kernel
theorem cs_a192 (hen : en_ok) (l : Launch) (hh : e2_hand_a l) : e2_smOk l 61 s_a192 := e2_con0 (H := 60) (n := 0) (C := evd_67) (S := S_a192) (I := I_a192) (fuel := 4000) [] hen ei_67 (e2_fa (hh _ hm_a6) (e2_fa (hh _ hm_a7) (e2_fa ((cs_a190 hen l).mono (by decide)) e2_fz))) e2_fz (by decide) co_a192 ex2_67 ck_a192
/-! a193 X5_gainOf -/
def as_a193 : List ev_V := [(2, 65, 0), (11, 0, 4294967295)]
def E_a193 : e2_E := [(2147483648, 2147583648, 0, 0), (2147483652, 2147483668, 1, 0)]
def an861 : e2_Q2 := (an700, an222)
def an862 : e2_Q3 := (an861, an226)
def an863 : e2_Q4 := (an862, an234)
def an864 : e2_Q5 := (an863, an250)
def an865 : e2_Q6 := (an274, an864)
def an866 : e2_Q7 := (an844, an865)
def an867 : e2_Q8 := (an842, an866)
noncomputable def f_a193 : ev_H := (an867 : e2_Q8)
noncomputable def q_a193_0 : ev_H := (an867 : e2_Q8)
noncomputable def rs_a193 : e2_Rs := [((11, 0, 4294967295), q_a193_0)]
noncomputable def s_a193 : e2_Sm := (95, as_a193, E_a193, f_a193, rs_a193)
noncomputable def S_a193 : List e2_Sm := []
noncomputable def I_a193 : List e2_In := []
set_option maxRecDepth 1000000 in
theorem co_a193 : e2_okSB E_a193.length as_a193 f_a193 rs_a193 = true := by decide +kernel
def al_a193_0 : List ev_V := [(2, 65, 0), (11, 0, 4294967295), (11, 0, 4294967295), (1, 2, 4294967296)]
def E_a193_0 : e2_E := [(2147483648, 2147583648, 0, 0), (2147483652, 2147483668, 1, 0), (2147483648, 2147483668, 2, 0)]
noncomputable def h_a193_0 : ev_H := (an867 : e2_Q8)
noncomputable def cl_a193_e : List (Nat × e2_S) := [(4, e2_cutL (al_a193_0.set 3 (11, 2147483648, 2147483668)) 2 (E_a193_0.take 2) h_a193_0)]
set_option maxRecDepth 1000000 in
theorem ck_a193_e : e2_run (e2_cal S_a193 I_a193 4000 0) (e2_fin rs_a193) e2x_95 (e2_bpL cl_a193_e) (e2_cutA cl_a193_e) 4000 (e2_seek e2x_95 0) (e2_al 4 as_a193) [] E_a193 f_a193 = true := by decide +kernel
noncomputable def cl_a193_0 : List (Nat × e2_S) := [(4, e2_cutL (al_a193_0.set 3 (13, 10, 2147483668)) 2 (E_a193_0.take 2) h_a193_0)]
set_option maxRecDepth 1000000 in
theorem ck_a193_0 : e2_runM (e2_cal S_a193 I_a193 4000 0) (e2_fin rs_a193) e2x_95 (e2_bpL cl_a193_0) (e2_cutA cl_a193_0) 4000 (e2_seek e2x_95 4) al_a193_0 [] E_a193_0 h_a193_0 = true := by decide +kernel
set_option maxRecDepth 1000000 in
theorem ci_a193_0 : e2_idl 2 (al_a193_0.set 3 (9, 0, 0)) = true := by decide +kernel
set_option maxRecDepth 1000000 in
theorem cj_a193_0 : e2_idh 2 8 h_a193_0 = true := by decide +kernel
theorem cs_a193 (hen : en_ok) (l : Launch) : e2_smOk l 1 s_a193 := by
  refine e2_conG (H := 0) (n := 0) (C := evd_95) (S := S_a193) (I := I_a193) (fuel := 4000) hen ei_95 e2_fz e2_fz (by decide) co_a193 fun M d _ hC hcall p e R s m args below meth c Q D cA A ads r0 ha hl0 => ?_
  have L_0 : e2_gdM M p l e R s m args below meth c Q D cA A ads r0 4 al_a193_0 [] E_a193_0 h_a193_0 := by
    refine e2_indL (u := 2) (j := 3) (lo := 2147483648) (hi := 2147483668) (b := 2) (dd := 0) hl0 (by decide) rfl rfl (Or.inr ⟨rfl, rfl⟩) rfl ci_a193_0 cj_a193_0 ?_
    intro r_0 k_0 hk_0 hp_0 hs_0 hn_0
    have hl_0 : r_0.length ≤ 3 := hs_0.len rfl
    have ha_0 := ha.ext hp_0
    exact e2_fromM hen ha_0 hcall (e2_cutA_ok (e2_fa (fun al st E h hc => hn_0 al st E h hc) e2_fz)) (hC []) (X := e2x_95) ex2_95 4 ck_a193_0
  have EN_0 := e2_entL (u := 2) (j := 3) (lo := 2147483648) (hi := 2147483668) hl0 rfl rfl rfl ci_a193_0 cj_a193_0 L_0
  exact e2_from hen ha hcall (e2_cutA_ok (e2_fa (fun al st E h hc => EN_0 al st E h hc) e2_fz)) (hC []) (X := e2x_95) ex2_95 0 ck_a193_e
/-! a194 X4_gainBy -/
def as_a194 : List ev_V := [(2, 59, 0), (11, 0, 4294967295), (11, 2147483648, 2147483651)]
def E_a194 : e2_E := [(2147483648, 2147583648, 0, 0), (2147483652, 2147483668, 1, 0)]
def an868 : e2_Q6 := (an854, an808)
def an869 : e2_Q7 := (an412, an868)
def an870 : e2_Q8 := (an852, an869)
noncomputable def f_a194 : ev_H := (an870 : e2_Q8)
def an871 : e2_Q2 := (an700, an358)
def an872 : e2_Q3 := (an871, an226)
def an873 : e2_Q4 := (an872, an234)
def an874 : e2_Q5 := (an873, an250)
def an875 : e2_Q6 := (an854, an874)
def an876 : e2_Q7 := (an431, an875)
def an877 : e2_Q8 := (an852, an876)
noncomputable def q_a194_0 : ev_H := (an877 : e2_Q8)
noncomputable def rs_a194 : e2_Rs := [((11, 0, 4294967295), q_a194_0)]
noncomputable def s_a194 : e2_Sm := (68, as_a194, E_a194, f_a194, rs_a194)
noncomputable def S_a194 : List e2_Sm := [s_a5, s_a6, s_a193]
noncomputable def I_a194 : List e2_In := []
set_option maxRecDepth 1000000 in
theorem ck_a194 : e2_run (e2_cal S_a194 I_a194 4000 0) (e2_fin rs_a194) e2x_68 (fun _ => false) (fun _ _ _ _ _ => false) 4000 (e2_seek e2x_68 0) (e2_al 3 as_a194) [] E_a194 f_a194 = true := by decide +kernel
set_option maxRecDepth 1000000 in
theorem co_a194 : e2_okSB E_a194.length as_a194 f_a194 rs_a194 = true := by decide +kernel
theorem cs_a194 (hen : en_ok) (l : Launch) (hh : e2_hand_a l) : e2_smOk l 61 s_a194 := e2_con0 (H := 60) (n := 0) (C := evd_68) (S := S_a194) (I := I_a194) (fuel := 4000) [] hen ei_68 (e2_fa (hh _ hm_a5) (e2_fa (hh _ hm_a6) (e2_fa ((cs_a193 hen l).mono (by decide)) e2_fz))) e2_fz (by decide) co_a194 ex2_68 ck_a194
/-! a195 X4_gainBy -/
def as_a195 : List ev_V := [(2, 59, 0), (11, 0, 4294967295), (11, 2147483648, 2147483651)]
def E_a195 : e2_E := [(2147483648, 2147583648, 0, 0), (2147483652, 2147483668, 1, 0)]
noncomputable def f_a195 : ev_H := (an877 : e2_Q8)
noncomputable def q_a195_0 : ev_H := (an877 : e2_Q8)
noncomputable def rs_a195 : e2_Rs := [((11, 0, 4294967295), q_a195_0)]
noncomputable def s_a195 : e2_Sm := (68, as_a195, E_a195, f_a195, rs_a195)
noncomputable def S_a195 : List e2_Sm := [s_a6, s_a7, s_a193]
noncomputable def I_a195 : List e2_In := []
set_option maxRecDepth 1000000 in
theorem ck_a195 : e2_run (e2_cal S_a195 I_a195 4000 0) (e2_fin rs_a195) e2x_68 (fun _ => false) (fun _ _ _ _ _ => false) 4000 (e2_seek e2x_68 0) (e2_al 3 as_a195) [] E_a195 f_a195 = true := by decide +kernel
set_option maxRecDepth 1000000 in
theorem co_a195 : e2_okSB E_a195.length as_a195 f_a195 rs_a195 = true := by decide +kernel
theorem cs_a195 (hen : en_ok) (l : Launch) (hh : e2_hand_a l) : e2_smOk l 61 s_a195 := e2_con0 (H := 60) (n := 0) (C := evd_68) (S := S_a195) (I := I_a195) (fuel := 4000) [] hen ei_68 (e2_fa (hh _ hm_a6) (e2_fa (hh _ hm_a7) (e2_fa ((cs_a193 hen l).mono (by decide)) e2_fz))) e2_fz (by decide) co_a195 ex2_68 ck_a195
/-! a196 X4_wishForOneReading -/
def as_a196 : List ev_V := [(2, 59, 0)]
def E_a196 : e2_E := [(2147483648, 2147583648, 0, 0), (2147483652, 2147483668, 1, 0)]
def ac185 : ev_C := (54, [(0, 20, 0), (11, 0, 4294967295)])
def an878 : e2_Q1 := (ac185, ac3)
def an879 : e2_Q2 := (an878, an184)
def an880 : e2_Q3 := (an182, an879)
def an881 : e2_Q4 := (an179, an880)
def an882 : e2_Q5 := (an338, an881)
def an883 : e2_Q6 := (an411, an882)
def an884 : e2_Q7 := (an883, an855)
def an885 : e2_Q8 := (an404, an884)
noncomputable def f_a196 : ev_H := (an885 : e2_Q8)
def an886 : e2_Q5 := (an429, an881)
def an887 : e2_Q6 := (an426, an886)
def an888 : e2_Q7 := (an887, an858)
def an889 : e2_Q8 := (an404, an888)
noncomputable def q_a196_0 : ev_H := (an889 : e2_Q8)
noncomputable def rs_a196 : e2_Rs := [((11, 2147483648, 2147483649), q_a196_0)]
noncomputable def s_a196 : e2_Sm := (70, as_a196, E_a196, f_a196, rs_a196)
noncomputable def S_a196 : List e2_Sm := [s_a5, s_a6]
noncomputable def I_a196 : List e2_In := []
set_option maxRecDepth 1000000 in
theorem co_a196 : e2_okSB E_a196.length as_a196 f_a196 rs_a196 = true := by decide +kernel
def al_a196_0 : List ev_V := [(2, 59, 0), (1, 2, 4294967296)]
def E_a196_0 : e2_E := [(2147483648, 2147583648, 0, 0), (2147483652, 2147483668, 1, 0), (2147483648, 2147483668, 2, 0)]
noncomputable def h_a196_0 : ev_H := (an889 : e2_Q8)
noncomputable def cl_a196_e : List (Nat × e2_S) := [(44, e2_cutL (al_a196_0.set 1 (11, 2147483648, 2147483668)) 2 (E_a196_0.take 2) h_a196_0)]
set_option maxRecDepth 1000000 in
theorem ck_a196_e : e2_run (e2_cal S_a196 I_a196 4000 0) (e2_fin rs_a196) e2x_70 (e2_bpL cl_a196_e) (e2_cutA cl_a196_e) 4000 (e2_seek e2x_70 0) (e2_al 2 as_a196) [] E_a196 f_a196 = true := by decide +kernel
noncomputable def cl_a196_0 : List (Nat × e2_S) := [(44, e2_cutL (al_a196_0.set 1 (13, 10, 2147483668)) 2 (E_a196_0.take 2) h_a196_0)]
set_option maxRecDepth 1000000 in
theorem ck_a196_0 : e2_runM (e2_cal S_a196 I_a196 4000 0) (e2_fin rs_a196) e2x_70 (e2_bpL cl_a196_0) (e2_cutA cl_a196_0) 4000 (e2_seek e2x_70 44) al_a196_0 [] E_a196_0 h_a196_0 = true := by decide +kernel
set_option maxRecDepth 1000000 in
theorem ci_a196_0 : e2_idl 2 (al_a196_0.set 1 (9, 0, 0)) = true := by decide +kernel
set_option maxRecDepth 1000000 in
theorem cj_a196_0 : e2_idh 2 8 h_a196_0 = true := by decide +kernel
theorem cs_a196 (hen : en_ok) (l : Launch) (hh : e2_hand_a l) : e2_smOk l 61 s_a196 := by
  refine e2_conG (H := 60) (n := 0) (C := evd_70) (S := S_a196) (I := I_a196) (fuel := 4000) hen ei_70 (e2_fa (hh _ hm_a5) (e2_fa (hh _ hm_a6) e2_fz)) e2_fz (by decide) co_a196 fun M d _ hC hcall p e R s m args below meth c Q D cA A ads r0 ha hl0 => ?_
  have L_0 : e2_gdM M p l e R s m args below meth c Q D cA A ads r0 44 al_a196_0 [] E_a196_0 h_a196_0 := by
    refine e2_indL (u := 2) (j := 1) (lo := 2147483648) (hi := 2147483668) (b := 2) (dd := 0) hl0 (by decide) rfl rfl (Or.inr ⟨rfl, rfl⟩) rfl ci_a196_0 cj_a196_0 ?_
    intro r_0 k_0 hk_0 hp_0 hs_0 hn_0
    have hl_0 : r_0.length ≤ 3 := hs_0.len rfl
    have ha_0 := ha.ext hp_0
    exact e2_fromM hen ha_0 hcall (e2_cutA_ok (e2_fa (fun al st E h hc => hn_0 al st E h hc) e2_fz)) (hC []) (X := e2x_70) ex2_70 44 ck_a196_0
  have EN_0 := e2_entL (u := 2) (j := 1) (lo := 2147483648) (hi := 2147483668) hl0 rfl rfl rfl ci_a196_0 cj_a196_0 L_0
  exact e2_from hen ha hcall (e2_cutA_ok (e2_fa (fun al st E h hc => EN_0 al st E h hc) e2_fz)) (hC []) (X := e2x_70) ex2_70 0 ck_a196_e
/-! a197 X4_hasWantedSigns -/
def as_a197 : List ev_V := [(2, 59, 0)]
def E_a197 : e2_E := [(2147483648, 2147583648, 0, 0), (2147483652, 2147483668, 1, 0)]
def an890 : e2_Q6 := (an30, an840)
def an891 : e2_Q7 := (an890, an455)
def an892 : e2_Q2 := (an127, an422)
def an893 : e2_Q3 := (an892, an132)
def an894 : e2_Q4 := (an893, an140)
def an895 : e2_Q5 := (an894, an156)
def an896 : e2_Q5 := (an172, an881)
def an897 : e2_Q6 := (an895, an896)
def an898 : e2_Q4 := (an211, an830)
def an899 : e2_Q5 := (an273, an898)
def an900 : e2_Q6 := (an899, an251)
def an901 : e2_Q7 := (an897, an900)
def an902 : e2_Q8 := (an891, an901)
noncomputable def f_a197 : ev_H := (an902 : e2_Q8)
noncomputable def q_a197_0 : ev_H := (an902 : e2_Q8)
noncomputable def rs_a197 : e2_Rs := [((11, 2147483648, 2147483649), q_a197_0)]
noncomputable def s_a197 : e2_Sm := (74, as_a197, E_a197, f_a197, rs_a197)
noncomputable def S_a197 : List e2_Sm := []
noncomputable def I_a197 : List e2_In := []
set_option maxRecDepth 1000000 in
theorem co_a197 : e2_okSB E_a197.length as_a197 f_a197 rs_a197 = true := by decide +kernel
def al_a197_0 : List ev_V := [(2, 59, 0), (1, 2, 4294967296)]
def E_a197_0 : e2_E := [(2147483648, 2147583648, 0, 0), (2147483652, 2147483668, 1, 0), (2147483648, 2147483668, 2, 0)]
noncomputable def h_a197_0 : ev_H := (an902 : e2_Q8)
noncomputable def cl_a197_e : List (Nat × e2_S) := [(18, e2_cutL (al_a197_0.set 1 (11, 2147483648, 2147483668)) 2 (E_a197_0.take 2) h_a197_0)]
set_option maxRecDepth 1000000 in
theorem ck_a197_e : e2_run (e2_cal S_a197 I_a197 4000 0) (e2_fin rs_a197) e2x_74 (e2_bpL cl_a197_e) (e2_cutA cl_a197_e) 4000 (e2_seek e2x_74 0) (e2_al 2 as_a197) [] E_a197 f_a197 = true := by decide +kernel
noncomputable def cl_a197_0 : List (Nat × e2_S) := [(18, e2_cutL (al_a197_0.set 1 (13, 10, 2147483668)) 2 (E_a197_0.take 2) h_a197_0)]
set_option maxRecDepth 1000000 in
theorem ck_a197_0 : e2_runM (e2_cal S_a197 I_a197 4000 0) (e2_fin rs_a197) e2x_74 (e2_bpL cl_a197_0) (e2_cutA cl_a197_0) 4000 (e2_seek e2x_74 18) al_a197_0 [] E_a197_0 h_a197_0 = true := by decide +kernel
set_option maxRecDepth 1000000 in
theorem ci_a197_0 : e2_idl 2 (al_a197_0.set 1 (9, 0, 0)) = true := by decide +kernel
set_option maxRecDepth 1000000 in
theorem cj_a197_0 : e2_idh 2 8 h_a197_0 = true := by decide +kernel
theorem cs_a197 (hen : en_ok) (l : Launch) : e2_smOk l 1 s_a197 := by
  refine e2_conG (H := 0) (n := 0) (C := evd_74) (S := S_a197) (I := I_a197) (fuel := 4000) hen ei_74 e2_fz e2_fz (by decide) co_a197 fun M d _ hC hcall p e R s m args below meth c Q D cA A ads r0 ha hl0 => ?_
  have L_0 : e2_gdM M p l e R s m args below meth c Q D cA A ads r0 18 al_a197_0 [] E_a197_0 h_a197_0 := by
    refine e2_indL (u := 2) (j := 1) (lo := 2147483648) (hi := 2147483668) (b := 2) (dd := 0) hl0 (by decide) rfl rfl (Or.inr ⟨rfl, rfl⟩) rfl ci_a197_0 cj_a197_0 ?_
    intro r_0 k_0 hk_0 hp_0 hs_0 hn_0
    have hl_0 : r_0.length ≤ 3 := hs_0.len rfl
    have ha_0 := ha.ext hp_0
    exact e2_fromM hen ha_0 hcall (e2_cutA_ok (e2_fa (fun al st E h hc => hn_0 al st E h hc) e2_fz)) (hC []) (X := e2x_74) ex2_74 18 ck_a197_0
  have EN_0 := e2_entL (u := 2) (j := 1) (lo := 2147483648) (hi := 2147483668) hl0 rfl rfl rfl ci_a197_0 cj_a197_0 L_0
  exact e2_from hen ha hcall (e2_cutA_ok (e2_fa (fun al st E h hc => EN_0 al st E h hc) e2_fz)) (hC []) (X := e2x_74) ex2_74 0 ck_a197_e
/-! a198 X4_meetsGoal -/
def as_a198 : List ev_V := [(2, 59, 0), (11, 0, 4294967295)]
def E_a198 : e2_E := [(2147483648, 2147583648, 0, 0), (2147483652, 2147483668, 1, 0)]
def an903 : e2_Q7 := (an883, an868)
def an904 : e2_Q8 := (an852, an903)
noncomputable def f_a198 : ev_H := (an904 : e2_Q8)
def an905 : e2_Q7 := (an887, an875)
def an906 : e2_Q8 := (an852, an905)
noncomputable def q_a198_0 : ev_H := (an906 : e2_Q8)
noncomputable def rs_a198 : e2_Rs := [((11, 2147483648, 2147483649), q_a198_0)]
noncomputable def s_a198 : e2_Sm := (73, as_a198, E_a198, f_a198, rs_a198)
noncomputable def S_a198 : List e2_Sm := [s_a5, s_a6, s_a193, s_a197]
noncomputable def I_a198 : List e2_In := []
set_option maxRecDepth 1000000 in
theorem ck_a198 : e2_run (e2_cal S_a198 I_a198 4000 0) (e2_fin rs_a198) e2x_73 (fun _ => false) (fun _ _ _ _ _ => false) 4000 (e2_seek e2x_73 0) (e2_al 3 as_a198) [] E_a198 f_a198 = true := by decide +kernel
set_option maxRecDepth 1000000 in
theorem co_a198 : e2_okSB E_a198.length as_a198 f_a198 rs_a198 = true := by decide +kernel
theorem cs_a198 (hen : en_ok) (l : Launch) (hh : e2_hand_a l) : e2_smOk l 61 s_a198 := e2_con0 (H := 60) (n := 0) (C := evd_73) (S := S_a198) (I := I_a198) (fuel := 4000) [] hen ei_73 (e2_fa (hh _ hm_a5) (e2_fa (hh _ hm_a6) (e2_fa ((cs_a193 hen l).mono (by decide)) (e2_fa ((cs_a197 hen l).mono (by decide)) e2_fz)))) e2_fz (by decide) co_a198 ex2_73 ck_a198
/-! a199 X4_changeFrom -/
def as_a199 : List ev_V := [(2, 59, 0), (0, 0, 0), (0, 0, 0), (11, 0, 4294967295)]
def E_a199 : e2_E := [(2147483648, 2147583648, 0, 0), (2147483652, 2147483668, 1, 0)]
noncomputable def f_a199 : ev_H := (an904 : e2_Q8)
noncomputable def q_a199_0 : ev_H := (an906 : e2_Q8)
noncomputable def rs_a199 : e2_Rs := [((11, 2147483648, 2147483649), q_a199_0)]
noncomputable def s_a199 : e2_Sm := (72, as_a199, E_a199, f_a199, rs_a199)
noncomputable def S_a199 : List e2_Sm := [s_a198]
noncomputable def I_a199 : List e2_In := []
set_option maxRecDepth 1000000 in
theorem ck_a199 : e2_run (e2_cal S_a199 I_a199 4000 0) (e2_fin rs_a199) e2x_72 (fun _ => false) (fun _ _ _ _ _ => false) 4000 (e2_seek e2x_72 0) (e2_al 6 as_a199) [] E_a199 f_a199 = true := by decide +kernel
set_option maxRecDepth 1000000 in
theorem co_a199 : e2_okSB E_a199.length as_a199 f_a199 rs_a199 = true := by decide +kernel
theorem cs_a199 (hen : en_ok) (l : Launch) (hh : e2_hand_a l) : e2_smOk l 62 s_a199 := e2_con0 (H := 61) (n := 0) (C := evd_72) (S := S_a199) (I := I_a199) (fuel := 4000) [] hen ei_72 (e2_fa (cs_a198 hen l hh) e2_fz) e2_fz (by decide) co_a199 ex2_72 ck_a199
/-! a200 X4_meetsGoal -/
def as_a200 : List ev_V := [(2, 59, 0), (11, 0, 4294967295)]
def E_a200 : e2_E := [(2147483648, 2147583648, 0, 0), (2147483652, 2147483668, 1, 0)]
noncomputable def f_a200 : ev_H := (an906 : e2_Q8)
noncomputable def q_a200_0 : ev_H := (an906 : e2_Q8)
noncomputable def rs_a200 : e2_Rs := [((11, 2147483648, 2147483649), q_a200_0)]
noncomputable def s_a200 : e2_Sm := (73, as_a200, E_a200, f_a200, rs_a200)
noncomputable def S_a200 : List e2_Sm := [s_a6, s_a7, s_a193, s_a197]
noncomputable def I_a200 : List e2_In := []
set_option maxRecDepth 1000000 in
theorem ck_a200 : e2_run (e2_cal S_a200 I_a200 4000 0) (e2_fin rs_a200) e2x_73 (fun _ => false) (fun _ _ _ _ _ => false) 4000 (e2_seek e2x_73 0) (e2_al 3 as_a200) [] E_a200 f_a200 = true := by decide +kernel
set_option maxRecDepth 1000000 in
theorem co_a200 : e2_okSB E_a200.length as_a200 f_a200 rs_a200 = true := by decide +kernel
theorem cs_a200 (hen : en_ok) (l : Launch) (hh : e2_hand_a l) : e2_smOk l 61 s_a200 := e2_con0 (H := 60) (n := 0) (C := evd_73) (S := S_a200) (I := I_a200) (fuel := 4000) [] hen ei_73 (e2_fa (hh _ hm_a6) (e2_fa (hh _ hm_a7) (e2_fa ((cs_a193 hen l).mono (by decide)) (e2_fa ((cs_a197 hen l).mono (by decide)) e2_fz)))) e2_fz (by decide) co_a200 ex2_73 ck_a200
/-! a201 X4_changeFrom -/
def as_a201 : List ev_V := [(2, 59, 0), (11, 2147483648, 2147483668), (0, 0, 0), (11, 0, 4294967295)]
def E_a201 : e2_E := [(2147483648, 2147583648, 0, 0), (2147483652, 2147483668, 1, 0)]
noncomputable def f_a201 : ev_H := (an906 : e2_Q8)
noncomputable def q_a201_0 : ev_H := (an906 : e2_Q8)
noncomputable def rs_a201 : e2_Rs := [((11, 2147483648, 2147483649), q_a201_0)]
noncomputable def s_a201 : e2_Sm := (72, as_a201, E_a201, f_a201, rs_a201)
noncomputable def S_a201 : List e2_Sm := [s_a200]
noncomputable def I_a201 : List e2_In := []
set_option maxRecDepth 1000000 in
theorem ck_a201 : e2_run (e2_cal S_a201 I_a201 4000 0) (e2_fin rs_a201) e2x_72 (fun _ => false) (fun _ _ _ _ _ => false) 4000 (e2_seek e2x_72 0) (e2_al 6 as_a201) [] E_a201 f_a201 = true := by decide +kernel
set_option maxRecDepth 1000000 in
theorem co_a201 : e2_okSB E_a201.length as_a201 f_a201 rs_a201 = true := by decide +kernel
theorem cs_a201 (hen : en_ok) (l : Launch) (hh : e2_hand_a l) : e2_smOk l 62 s_a201 := e2_con0 (H := 61) (n := 0) (C := evd_72) (S := S_a201) (I := I_a201) (fuel := 4000) [] hen ei_72 (e2_fa (cs_a200 hen l hh) e2_fz) e2_fz (by decide) co_a201 ex2_72 ck_a201
/-! a202 X4_changeFrom -/
def as_a202 : List ev_V := [(2, 59, 0), (11, 2147483648, 2147483667), (0, 1, 0), (11, 0, 4294967295)]
def E_a202 : e2_E := [(2147483648, 2147583648, 0, 0), (2147483652, 2147483668, 1, 0)]
def an907 : e2_Q2 := (an878, an57)
def an908 : e2_Q3 := (an55, an907)
def an909 : e2_Q4 := (an385, an908)
def an910 : e2_Q5 := (an383, an909)
def an911 : e2_Q6 := (an850, an910)
def an912 : e2_Q7 := (an911, an403)
def an913 : e2_Q8 := (an912, an905)
noncomputable def f_a202 : ev_H := (an913 : e2_Q8)
noncomputable def q_a202_0 : ev_H := (an913 : e2_Q8)
noncomputable def rs_a202 : e2_Rs := [((11, 2147483648, 2147483649), q_a202_0)]
noncomputable def s_a202 : e2_Sm := (72, as_a202, E_a202, f_a202, rs_a202)
noncomputable def S_a202 : List e2_Sm := [s_a201]
noncomputable def I_a202 : List e2_In := [(64, 2, e2x_64), (159, 2, e2x_159)]
set_option maxRecDepth 1000000 in
theorem co_a202 : e2_okSB E_a202.length as_a202 f_a202 rs_a202 = true := by decide +kernel
def al_a202_0 : List ev_V := [(2, 59, 0), (11, 2147483648, 2147483667), (0, 1, 0), (11, 0, 4294967295), (1, 2, 4294967296), (9, 0, 0)]
def E_a202_0 : e2_E := [(2147483648, 2147583648, 0, 0), (2147483652, 2147483668, 1, 0), (2147483648, 2147483668, 2, 0)]
noncomputable def h_a202_0 : ev_H := (an913 : e2_Q8)
noncomputable def cl_a202_e : List (Nat × e2_S) := [(13, e2_cutL (al_a202_0.set 4 (11, 2147483648, 2147483668)) 2 (E_a202_0.take 2) h_a202_0)]
set_option maxRecDepth 1000000 in
theorem ck_a202_e : e2_run (e2_cal S_a202 I_a202 4000 1) (e2_fin rs_a202) e2x_72 (e2_bpL cl_a202_e) (e2_cutA cl_a202_e) 4000 (e2_seek e2x_72 0) (e2_al 6 as_a202) [] E_a202 f_a202 = true := by decide +kernel
noncomputable def cl_a202_0 : List (Nat × e2_S) := [(13, e2_cutL (al_a202_0.set 4 (13, 10, 2147483668)) 2 (E_a202_0.take 2) h_a202_0)]
set_option maxRecDepth 1000000 in
theorem ck_a202_0 : e2_runM (e2_cal S_a202 I_a202 4000 1) (e2_fin rs_a202) e2x_72 (e2_bpL cl_a202_0) (e2_cutA cl_a202_0) 4000 (e2_seek e2x_72 13) al_a202_0 [] E_a202_0 h_a202_0 = true := by decide +kernel
set_option maxRecDepth 1000000 in
theorem ci_a202_0 : e2_idl 2 (al_a202_0.set 4 (9, 0, 0)) = true := by decide +kernel
set_option maxRecDepth 1000000 in
theorem cj_a202_0 : e2_idh 2 8 h_a202_0 = true := by decide +kernel
theorem cs_a202 (hen : en_ok) (l : Launch) (hh : e2_hand_a l) : e2_smOk l 64 s_a202 := by
  refine e2_conG (H := 62) (n := 1) (C := evd_72) (S := S_a202) (I := I_a202) (fuel := 4000) hen ei_72 (e2_fa (cs_a201 hen l hh) e2_fz) (e2_fa ein_64 (e2_fa ein_159 e2_fz)) (by decide) co_a202 fun M d _ hC hcall p e R s m args below meth c Q D cA A ads r0 ha hl0 => ?_
  have L_0 : e2_gdM M p l e R s m args below meth c Q D cA A ads r0 13 al_a202_0 [] E_a202_0 h_a202_0 := by
    refine e2_indL (u := 2) (j := 4) (lo := 2147483648) (hi := 2147483668) (b := 2) (dd := 0) hl0 (by decide) rfl rfl (Or.inr ⟨rfl, rfl⟩) rfl ci_a202_0 cj_a202_0 ?_
    intro r_0 k_0 hk_0 hp_0 hs_0 hn_0
    have hl_0 : r_0.length ≤ 3 := hs_0.len rfl
    have ha_0 := ha.ext hp_0
    exact e2_fromM hen ha_0 hcall (e2_cutA_ok (e2_fa (fun al st E h hc => hn_0 al st E h hc) e2_fz)) (hC []) (X := e2x_72) ex2_72 13 ck_a202_0
  have EN_0 := e2_entL (u := 2) (j := 4) (lo := 2147483648) (hi := 2147483668) hl0 rfl rfl rfl ci_a202_0 cj_a202_0 L_0
  exact e2_from hen ha hcall (e2_cutA_ok (e2_fa (fun al st E h hc => EN_0 al st E h hc) e2_fz)) (hC []) (X := e2x_72) ex2_72 0 ck_a202_e
/-! a203 X4_changeFrom -/
def as_a203 : List ev_V := [(2, 59, 0), (11, 2147483648, 2147483667), (0, 2, 0), (11, 0, 4294967295)]
def E_a203 : e2_E := [(2147483648, 2147583648, 0, 0), (2147483652, 2147483668, 1, 0)]
noncomputable def f_a203 : ev_H := (an913 : e2_Q8)
noncomputable def q_a203_0 : ev_H := (an913 : e2_Q8)
noncomputable def rs_a203 : e2_Rs := [((11, 2147483648, 2147483649), q_a203_0)]
noncomputable def s_a203 : e2_Sm := (72, as_a203, E_a203, f_a203, rs_a203)
noncomputable def S_a203 : List e2_Sm := [s_a202]
noncomputable def I_a203 : List e2_In := [(64, 2, e2x_64), (159, 2, e2x_159)]
set_option maxRecDepth 1000000 in
theorem co_a203 : e2_okSB E_a203.length as_a203 f_a203 rs_a203 = true := by decide +kernel
def al_a203_0 : List ev_V := [(2, 59, 0), (11, 2147483648, 2147483667), (0, 2, 0), (11, 0, 4294967295), (1, 2, 4294967296), (9, 0, 0)]
def E_a203_0 : e2_E := [(2147483648, 2147583648, 0, 0), (2147483652, 2147483668, 1, 0), (2147483648, 2147483667, 2, 0)]
noncomputable def h_a203_0 : ev_H := (an913 : e2_Q8)
noncomputable def cl_a203_e : List (Nat × e2_S) := [(13, e2_cutL (al_a203_0.set 4 (11, 2147483648, 2147483667)) 2 (E_a203_0.take 2) h_a203_0)]
set_option maxRecDepth 1000000 in
theorem ck_a203_e : e2_run (e2_cal S_a203 I_a203 4000 1) (e2_fin rs_a203) e2x_72 (e2_bpL cl_a203_e) (e2_cutA cl_a203_e) 4000 (e2_seek e2x_72 0) (e2_al 6 as_a203) [] E_a203 f_a203 = true := by decide +kernel
noncomputable def cl_a203_0 : List (Nat × e2_S) := [(13, e2_cutL (al_a203_0.set 4 (13, 10, 2147483667)) 2 (E_a203_0.take 2) h_a203_0)]
set_option maxRecDepth 1000000 in
theorem ck_a203_0 : e2_runM (e2_cal S_a203 I_a203 4000 1) (e2_fin rs_a203) e2x_72 (e2_bpL cl_a203_0) (e2_cutA cl_a203_0) 4000 (e2_seek e2x_72 13) al_a203_0 [] E_a203_0 h_a203_0 = true := by decide +kernel
set_option maxRecDepth 1000000 in
theorem ci_a203_0 : e2_idl 2 (al_a203_0.set 4 (9, 0, 0)) = true := by decide +kernel
set_option maxRecDepth 1000000 in
theorem cj_a203_0 : e2_idh 2 8 h_a203_0 = true := by decide +kernel
theorem cs_a203 (hen : en_ok) (l : Launch) (hh : e2_hand_a l) : e2_smOk l 66 s_a203 := by
  refine e2_conG (H := 64) (n := 1) (C := evd_72) (S := S_a203) (I := I_a203) (fuel := 4000) hen ei_72 (e2_fa (cs_a202 hen l hh) e2_fz) (e2_fa ein_64 (e2_fa ein_159 e2_fz)) (by decide) co_a203 fun M d _ hC hcall p e R s m args below meth c Q D cA A ads r0 ha hl0 => ?_
  have L_0 : e2_gdM M p l e R s m args below meth c Q D cA A ads r0 13 al_a203_0 [] E_a203_0 h_a203_0 := by
    refine e2_indL (u := 2) (j := 4) (lo := 2147483648) (hi := 2147483667) (b := 2) (dd := 0) hl0 (by decide) rfl rfl (Or.inr ⟨rfl, rfl⟩) rfl ci_a203_0 cj_a203_0 ?_
    intro r_0 k_0 hk_0 hp_0 hs_0 hn_0
    have hl_0 : r_0.length ≤ 3 := hs_0.len rfl
    have ha_0 := ha.ext hp_0
    exact e2_fromM hen ha_0 hcall (e2_cutA_ok (e2_fa (fun al st E h hc => hn_0 al st E h hc) e2_fz)) (hC []) (X := e2x_72) ex2_72 13 ck_a203_0
  have EN_0 := e2_entL (u := 2) (j := 4) (lo := 2147483648) (hi := 2147483667) hl0 rfl rfl rfl ci_a203_0 cj_a203_0 L_0
  exact e2_from hen ha hcall (e2_cutA_ok (e2_fa (fun al st E h hc => EN_0 al st E h hc) e2_fz)) (hC []) (X := e2x_72) ex2_72 0 ck_a203_e
/-! a204 X4_changeFrom -/
def as_a204 : List ev_V := [(2, 59, 0), (0, 0, 0), (0, 3, 0), (11, 0, 4294967295)]
def E_a204 : e2_E := [(2147483648, 2147583648, 0, 0), (2147483652, 2147483668, 1, 0)]
noncomputable def f_a204 : ev_H := (an913 : e2_Q8)
noncomputable def q_a204_0 : ev_H := (an913 : e2_Q8)
noncomputable def rs_a204 : e2_Rs := [((11, 2147483648, 2147483649), q_a204_0)]
noncomputable def s_a204 : e2_Sm := (72, as_a204, E_a204, f_a204, rs_a204)
noncomputable def S_a204 : List e2_Sm := [s_a203]
noncomputable def I_a204 : List e2_In := [(64, 2, e2x_64), (159, 2, e2x_159)]
set_option maxRecDepth 1000000 in
theorem co_a204 : e2_okSB E_a204.length as_a204 f_a204 rs_a204 = true := by decide +kernel
def al_a204_0 : List ev_V := [(2, 59, 0), (0, 0, 0), (0, 3, 0), (11, 0, 4294967295), (1, 2, 4294967296), (9, 0, 0)]
def E_a204_0 : e2_E := [(2147483648, 2147583648, 0, 0), (2147483652, 2147483668, 1, 0), (2147483648, 2147483666, 2, 0)]
noncomputable def h_a204_0 : ev_H := (an913 : e2_Q8)
noncomputable def cl_a204_e : List (Nat × e2_S) := [(13, e2_cutL (al_a204_0.set 4 (11, 2147483648, 2147483666)) 2 (E_a204_0.take 2) h_a204_0)]
set_option maxRecDepth 1000000 in
theorem ck_a204_e : e2_run (e2_cal S_a204 I_a204 4000 1) (e2_fin rs_a204) e2x_72 (e2_bpL cl_a204_e) (e2_cutA cl_a204_e) 4000 (e2_seek e2x_72 0) (e2_al 6 as_a204) [] E_a204 f_a204 = true := by decide +kernel
noncomputable def cl_a204_0 : List (Nat × e2_S) := [(13, e2_cutL (al_a204_0.set 4 (13, 10, 2147483666)) 2 (E_a204_0.take 2) h_a204_0)]
set_option maxRecDepth 1000000 in
theorem ck_a204_0 : e2_runM (e2_cal S_a204 I_a204 4000 1) (e2_fin rs_a204) e2x_72 (e2_bpL cl_a204_0) (e2_cutA cl_a204_0) 4000 (e2_seek e2x_72 13) al_a204_0 [] E_a204_0 h_a204_0 = true := by decide +kernel
set_option maxRecDepth 1000000 in
theorem ci_a204_0 : e2_idl 2 (al_a204_0.set 4 (9, 0, 0)) = true := by decide +kernel
set_option maxRecDepth 1000000 in
theorem cj_a204_0 : e2_idh 2 8 h_a204_0 = true := by decide +kernel
theorem cs_a204 (hen : en_ok) (l : Launch) (hh : e2_hand_a l) : e2_smOk l 68 s_a204 := by
  refine e2_conG (H := 66) (n := 1) (C := evd_72) (S := S_a204) (I := I_a204) (fuel := 4000) hen ei_72 (e2_fa (cs_a203 hen l hh) e2_fz) (e2_fa ein_64 (e2_fa ein_159 e2_fz)) (by decide) co_a204 fun M d _ hC hcall p e R s m args below meth c Q D cA A ads r0 ha hl0 => ?_
  have L_0 : e2_gdM M p l e R s m args below meth c Q D cA A ads r0 13 al_a204_0 [] E_a204_0 h_a204_0 := by
    refine e2_indL (u := 2) (j := 4) (lo := 2147483648) (hi := 2147483666) (b := 2) (dd := 0) hl0 (by decide) rfl rfl (Or.inr ⟨rfl, rfl⟩) rfl ci_a204_0 cj_a204_0 ?_
    intro r_0 k_0 hk_0 hp_0 hs_0 hn_0
    have hl_0 : r_0.length ≤ 3 := hs_0.len rfl
    have ha_0 := ha.ext hp_0
    exact e2_fromM hen ha_0 hcall (e2_cutA_ok (e2_fa (fun al st E h hc => hn_0 al st E h hc) e2_fz)) (hC []) (X := e2x_72) ex2_72 13 ck_a204_0
  have EN_0 := e2_entL (u := 2) (j := 4) (lo := 2147483648) (hi := 2147483666) hl0 rfl rfl rfl ci_a204_0 cj_a204_0 L_0
  exact e2_from hen ha hcall (e2_cutA_ok (e2_fa (fun al st E h hc => EN_0 al st E h hc) e2_fz)) (hC []) (X := e2x_72) ex2_72 0 ck_a204_e
/-! a205 X4_fewestChanges -/
def as_a205 : List ev_V := [(2, 59, 0)]
def E_a205 : e2_E := [(2147483648, 2147583648, 0, 0), (2147483652, 2147483668, 1, 0)]
def an914 : e2_Q8 := (an912, an903)
noncomputable def f_a205 : ev_H := (an914 : e2_Q8)
noncomputable def q_a205_0 : ev_H := (an913 : e2_Q8)
noncomputable def rs_a205 : e2_Rs := [((11, 2147483647, 2147483651), q_a205_0)]
noncomputable def s_a205 : e2_Sm := (71, as_a205, E_a205, f_a205, rs_a205)
noncomputable def S_a205 : List e2_Sm := [s_a199, s_a202, s_a203, s_a204]
noncomputable def I_a205 : List e2_In := []
set_option maxRecDepth 1000000 in
theorem co_a205 : e2_okSB E_a205.length as_a205 f_a205 rs_a205 = true := by decide +kernel
def al_a205_0 : List ev_V := [(2, 59, 0), (1, 2, 4294967296)]
def E_a205_0 : e2_E := [(2147483648, 2147583648, 0, 0), (2147483652, 2147483668, 1, 0), (2147483649, 2147483652, 2, 0)]
noncomputable def h_a205_0 : ev_H := (an913 : e2_Q8)
def al_a205_1 : List ev_V := [(2, 59, 0), (1, 2, 4294967296)]
def E_a205_1 : e2_E := [(2147483648, 2147583648, 0, 0), (2147483652, 2147483668, 1, 0), (2147483648, 2147483648, 2, 0)]
noncomputable def h_a205_1 : ev_H := (an914 : e2_Q8)
noncomputable def cl_a205_e : List (Nat × e2_S) := [(2, e2_cutL (al_a205_1.set 1 (11, 2147483648, 2147483648)) 2 (E_a205_1.take 2) h_a205_1)]
set_option maxRecDepth 1000000 in
theorem ck_a205_e : e2_run (e2_cal S_a205 I_a205 4000 0) (e2_fin rs_a205) e2x_71 (e2_bpL cl_a205_e) (e2_cutA cl_a205_e) 4000 (e2_seek e2x_71 0) (e2_al 2 as_a205) [] E_a205 f_a205 = true := by decide +kernel
noncomputable def cl_a205_0 : List (Nat × e2_S) := [(2, e2_cutL (al_a205_0.set 1 (13, 10, 2147483652)) 2 (E_a205_0.take 2) h_a205_0)]
set_option maxRecDepth 1000000 in
theorem ck_a205_0 : e2_runM (e2_cal S_a205 I_a205 4000 0) (e2_fin rs_a205) e2x_71 (e2_bpL cl_a205_0) (e2_cutA cl_a205_0) 4000 (e2_seek e2x_71 2) al_a205_0 [] E_a205_0 h_a205_0 = true := by decide +kernel
set_option maxRecDepth 1000000 in
theorem ci_a205_0 : e2_idl 2 (al_a205_0.set 1 (9, 0, 0)) = true := by decide +kernel
set_option maxRecDepth 1000000 in
theorem cj_a205_0 : e2_idh 2 8 h_a205_0 = true := by decide +kernel
noncomputable def cl_a205_1 : List (Nat × e2_S) := [(2, e2_cutL (al_a205_0.set 1 (11, 2147483649, 2147483652)) 2 (E_a205_0.take 2) h_a205_0)]
set_option maxRecDepth 1000000 in
theorem ck_a205_1 : e2_runM (e2_cal S_a205 I_a205 4000 0) (e2_fin rs_a205) e2x_71 (e2_bpL cl_a205_1) (e2_cutA cl_a205_1) 4000 (e2_seek e2x_71 2) al_a205_1 [] E_a205_1 h_a205_1 = true := by decide +kernel
set_option maxRecDepth 1000000 in
theorem ci_a205_1 : e2_idl 2 (al_a205_1.set 1 (9, 0, 0)) = true := by decide +kernel
set_option maxRecDepth 1000000 in
theorem cj_a205_1 : e2_idh 2 8 h_a205_1 = true := by decide +kernel
theorem cs_a205 (hen : en_ok) (l : Launch) (hh : e2_hand_a l) : e2_smOk l 69 s_a205 := by
  refine e2_conG (H := 68) (n := 0) (C := evd_71) (S := S_a205) (I := I_a205) (fuel := 4000) hen ei_71 (e2_fa ((cs_a199 hen l hh).mono (by decide)) (e2_fa ((cs_a202 hen l hh).mono (by decide)) (e2_fa ((cs_a203 hen l hh).mono (by decide)) (e2_fa (cs_a204 hen l hh) e2_fz)))) e2_fz (by decide) co_a205 fun M d _ hC hcall p e R s m args below meth c Q D cA A ads r0 ha hl0 => ?_
  have L_0 : e2_gdM M p l e R s m args below meth c Q D cA A ads r0 2 al_a205_0 [] E_a205_0 h_a205_0 := by
    refine e2_indL (u := 2) (j := 1) (lo := 2147483649) (hi := 2147483652) (b := 2) (dd := 0) hl0 (by decide) rfl rfl (Or.inr ⟨rfl, rfl⟩) rfl ci_a205_0 cj_a205_0 ?_
    intro r_0 k_0 hk_0 hp_0 hs_0 hn_0
    have hl_0 : r_0.length ≤ 3 := hs_0.len rfl
    have ha_0 := ha.ext hp_0
    exact e2_fromM hen ha_0 hcall (e2_cutA_ok (e2_fa (fun al st E h hc => hn_0 al st E h hc) e2_fz)) (hC [9]) (X := e2x_71) ex2_71 2 ck_a205_0
  have EN_0 := e2_entL (u := 2) (j := 1) (lo := 2147483649) (hi := 2147483652) hl0 rfl rfl rfl ci_a205_0 cj_a205_0 L_0
  have L_1 : e2_gdM M p l e R s m args below meth c Q D cA A ads r0 2 al_a205_1 [] E_a205_1 h_a205_1 := by
    refine e2_indL (u := 2) (j := 1) (lo := 2147483648) (hi := 2147483648) (b := 2) (dd := 0) hl0 (by decide) rfl rfl (Or.inr ⟨rfl, rfl⟩) rfl ci_a205_1 cj_a205_1 ?_
    intro r_1 k_1 hk_1 hp_1 hs_1 hn_1
    have hl_1 : r_1.length ≤ 3 := hs_1.len rfl
    have ha_1 := ha.ext hp_1
    exact e2_fromM hen ha_1 hcall (e2_cutA_ok (e2_fa (fun al st E h hc => (EN_0 al st E h hc).ext hp_1) e2_fz)) (hC [9]) (X := e2x_71) ex2_71 2 ck_a205_1
  have EN_1 := e2_entL (u := 2) (j := 1) (lo := 2147483648) (hi := 2147483648) hl0 rfl rfl rfl ci_a205_1 cj_a205_1 L_1
  exact e2_from hen ha hcall (e2_cutA_ok (e2_fa (fun al st E h hc => EN_1 al st E h hc) e2_fz)) (hC [9]) (X := e2x_71) ex2_71 0 ck_a205_e
/-! a206 X4_fewestChanges -/
def as_a206 : List ev_V := [(2, 59, 0)]
def E_a206 : e2_E := [(2147483648, 2147583648, 0, 0), (2147483652, 2147483668, 1, 0)]
noncomputable def f_a206 : ev_H := (an913 : e2_Q8)
noncomputable def q_a206_0 : ev_H := (an913 : e2_Q8)
noncomputable def rs_a206 : e2_Rs := [((11, 2147483647, 2147483651), q_a206_0)]
noncomputable def s_a206 : e2_Sm := (71, as_a206, E_a206, f_a206, rs_a206)
noncomputable def S_a206 : List e2_Sm := [s_a201, s_a202, s_a203, s_a204]
noncomputable def I_a206 : List e2_In := []
set_option maxRecDepth 1000000 in
theorem co_a206 : e2_okSB E_a206.length as_a206 f_a206 rs_a206 = true := by decide +kernel
def al_a206_0 : List ev_V := [(2, 59, 0), (1, 2, 4294967296)]
def E_a206_0 : e2_E := [(2147483648, 2147583648, 0, 0), (2147483652, 2147483668, 1, 0), (2147483648, 2147483652, 2, 0)]
noncomputable def h_a206_0 : ev_H := (an913 : e2_Q8)
noncomputable def cl_a206_e : List (Nat × e2_S) := [(2, e2_cutL (al_a206_0.set 1 (11, 2147483648, 2147483652)) 2 (E_a206_0.take 2) h_a206_0)]
set_option maxRecDepth 1000000 in
theorem ck_a206_e : e2_run (e2_cal S_a206 I_a206 4000 0) (e2_fin rs_a206) e2x_71 (e2_bpL cl_a206_e) (e2_cutA cl_a206_e) 4000 (e2_seek e2x_71 0) (e2_al 2 as_a206) [] E_a206 f_a206 = true := by decide +kernel
noncomputable def cl_a206_0 : List (Nat × e2_S) := [(2, e2_cutL (al_a206_0.set 1 (13, 10, 2147483652)) 2 (E_a206_0.take 2) h_a206_0)]
set_option maxRecDepth 1000000 in
theorem ck_a206_0 : e2_runM (e2_cal S_a206 I_a206 4000 0) (e2_fin rs_a206) e2x_71 (e2_bpL cl_a206_0) (e2_cutA cl_a206_0) 4000 (e2_seek e2x_71 2) al_a206_0 [] E_a206_0 h_a206_0 = true := by decide +kernel
set_option maxRecDepth 1000000 in
theorem ci_a206_0 : e2_idl 2 (al_a206_0.set 1 (9, 0, 0)) = true := by decide +kernel
set_option maxRecDepth 1000000 in
theorem cj_a206_0 : e2_idh 2 8 h_a206_0 = true := by decide +kernel
theorem cs_a206 (hen : en_ok) (l : Launch) (hh : e2_hand_a l) : e2_smOk l 69 s_a206 := by
  refine e2_conG (H := 68) (n := 0) (C := evd_71) (S := S_a206) (I := I_a206) (fuel := 4000) hen ei_71 (e2_fa ((cs_a201 hen l hh).mono (by decide)) (e2_fa ((cs_a202 hen l hh).mono (by decide)) (e2_fa ((cs_a203 hen l hh).mono (by decide)) (e2_fa (cs_a204 hen l hh) e2_fz)))) e2_fz (by decide) co_a206 fun M d _ hC hcall p e R s m args below meth c Q D cA A ads r0 ha hl0 => ?_
  have L_0 : e2_gdM M p l e R s m args below meth c Q D cA A ads r0 2 al_a206_0 [] E_a206_0 h_a206_0 := by
    refine e2_indL (u := 2) (j := 1) (lo := 2147483648) (hi := 2147483652) (b := 2) (dd := 0) hl0 (by decide) rfl rfl (Or.inr ⟨rfl, rfl⟩) rfl ci_a206_0 cj_a206_0 ?_
    intro r_0 k_0 hk_0 hp_0 hs_0 hn_0
    have hl_0 : r_0.length ≤ 3 := hs_0.len rfl
    have ha_0 := ha.ext hp_0
    exact e2_fromM hen ha_0 hcall (e2_cutA_ok (e2_fa (fun al st E h hc => hn_0 al st E h hc) e2_fz)) (hC [9]) (X := e2x_71) ex2_71 2 ck_a206_0
  have EN_0 := e2_entL (u := 2) (j := 1) (lo := 2147483648) (hi := 2147483652) hl0 rfl rfl rfl ci_a206_0 cj_a206_0 L_0
  exact e2_from hen ha hcall (e2_cutA_ok (e2_fa (fun al st E h hc => EN_0 al st E h hc) e2_fz)) (hC [9]) (X := e2x_71) ex2_71 0 ck_a206_e
/-! a207 X4_cellsOfPart -/
def as_a207 : List ev_V := [(2, 59, 0), (11, 2147483649, 2147483903), (11, 2147483648, 2147483656)]
def E_a207 : e2_E := [(2147483648, 2147583648, 0, 0), (2147483652, 2147483668, 1, 0)]
def an915 : e2_Q2 := (an282, an120)
def an916 : e2_Q3 := (an118, an915)
def an917 : e2_Q4 := (an115, an916)
def an918 : e2_Q5 := (an108, an917)
def an919 : e2_Q6 := (an454, an918)
def an920 : e2_Q7 := (an62, an919)
def an921 : e2_Q7 := (an189, an900)
def an922 : e2_Q8 := (an920, an921)
noncomputable def f_a207 : ev_H := (an922 : e2_Q8)
noncomputable def q_a207_0 : ev_H := (an922 : e2_Q8)
noncomputable def rs_a207 : e2_Rs := [((11, 0, 4294967295), q_a207_0)]
noncomputable def s_a207 : e2_Sm := (77, as_a207, E_a207, f_a207, rs_a207)
noncomputable def S_a207 : List e2_Sm := []
noncomputable def I_a207 : List e2_In := [(159, 2, e2x_159)]
set_option maxRecDepth 1000000 in
theorem co_a207 : e2_okSB E_a207.length as_a207 f_a207 rs_a207 = true := by decide +kernel
def al_a207_0 : List ev_V := [(2, 59, 0), (11, 2147483649, 2147483903), (11, 2147483648, 2147483656), (11, 0, 4294967295), (1, 2, 4294967296)]
def E_a207_0 : e2_E := [(2147483648, 2147583648, 0, 0), (2147483652, 2147483668, 1, 0), (2147483648, 2147483656, 2, 0)]
noncomputable def h_a207_0 : ev_H := (an922 : e2_Q8)
noncomputable def cl_a207_e : List (Nat × e2_S) := [(5, e2_cutL (al_a207_0.set 4 (11, 2147483648, 2147483656)) 2 (E_a207_0.take 2) h_a207_0)]
set_option maxRecDepth 1000000 in
theorem ck_a207_e : e2_run (e2_cal S_a207 I_a207 4000 1) (e2_fin rs_a207) e2x_77 (e2_bpL cl_a207_e) (e2_cutA cl_a207_e) 4000 (e2_seek e2x_77 0) (e2_al 5 as_a207) [] E_a207 f_a207 = true := by decide +kernel
noncomputable def cl_a207_0 : List (Nat × e2_S) := [(5, e2_cutL (al_a207_0.set 4 (13, 10, 2147483656)) 2 (E_a207_0.take 2) h_a207_0)]
set_option maxRecDepth 1000000 in
theorem ck_a207_0 : e2_runM (e2_cal S_a207 I_a207 4000 1) (e2_fin rs_a207) e2x_77 (e2_bpL cl_a207_0) (e2_cutA cl_a207_0) 4000 (e2_seek e2x_77 5) al_a207_0 [] E_a207_0 h_a207_0 = true := by decide +kernel
set_option maxRecDepth 1000000 in
theorem ci_a207_0 : e2_idl 2 (al_a207_0.set 4 (9, 0, 0)) = true := by decide +kernel
set_option maxRecDepth 1000000 in
theorem cj_a207_0 : e2_idh 2 8 h_a207_0 = true := by decide +kernel
theorem cs_a207 (hen : en_ok) (l : Launch) : e2_smOk l 2 s_a207 := by
  refine e2_conG (H := 0) (n := 1) (C := evd_77) (S := S_a207) (I := I_a207) (fuel := 4000) hen ei_77 e2_fz (e2_fa ein_159 e2_fz) (by decide) co_a207 fun M d _ hC hcall p e R s m args below meth c Q D cA A ads r0 ha hl0 => ?_
  have L_0 : e2_gdM M p l e R s m args below meth c Q D cA A ads r0 5 al_a207_0 [] E_a207_0 h_a207_0 := by
    refine e2_indL (u := 2) (j := 4) (lo := 2147483648) (hi := 2147483656) (b := 2) (dd := 0) hl0 (by decide) rfl rfl (Or.inr ⟨rfl, rfl⟩) rfl ci_a207_0 cj_a207_0 ?_
    intro r_0 k_0 hk_0 hp_0 hs_0 hn_0
    have hl_0 : r_0.length ≤ 3 := hs_0.len rfl
    have ha_0 := ha.ext hp_0
    exact e2_fromM hen ha_0 hcall (e2_cutA_ok (e2_fa (fun al st E h hc => hn_0 al st E h hc) e2_fz)) (hC []) (X := e2x_77) ex2_77 5 ck_a207_0
  have EN_0 := e2_entL (u := 2) (j := 4) (lo := 2147483648) (hi := 2147483656) hl0 rfl rfl rfl ci_a207_0 cj_a207_0 L_0
  exact e2_from hen ha hcall (e2_cutA_ok (e2_fa (fun al st E h hc => EN_0 al st E h hc) e2_fz)) (hC []) (X := e2x_77) ex2_77 0 ck_a207_e
/-! a208 X4_layFirstOrder -/
def as_a208 : List ev_V := [(2, 59, 0), (11, 2147483648, 2147483656)]
def E_a208 : e2_E := [(2147483648, 2147583648, 0, 0), (2147483652, 2147483668, 1, 0)]
def an923 : e2_Q4 := (an52, an908)
def an924 : e2_Q5 := (an45, an923)
def an925 : e2_Q6 := (an30, an924)
def an926 : e2_Q7 := (an925, an919)
def ac186 : ev_C := (54, [(0, 256, 0), (11, 0, 4294967295)])
def an927 : e2_Q1 := (ac186, ac3)
def an928 : e2_Q2 := (an927, an247)
def an929 : e2_Q3 := (an245, an928)
def an930 : e2_Q4 := (an242, an929)
def an931 : e2_Q5 := (an235, an930)
def an932 : e2_Q6 := (an899, an931)
def an933 : e2_Q7 := (an189, an932)
def an934 : e2_Q8 := (an926, an933)
noncomputable def f_a208 : ev_H := (an934 : e2_Q8)
noncomputable def q_a208_0 : ev_H := (an934 : e2_Q8)
noncomputable def rs_a208 : e2_Rs := [((9, 0, 0), q_a208_0)]
noncomputable def s_a208 : e2_Sm := (79, as_a208, E_a208, f_a208, rs_a208)
noncomputable def S_a208 : List e2_Sm := []
noncomputable def I_a208 : List e2_In := [(64, 2, e2x_64), (159, 2, e2x_159)]
set_option maxRecDepth 1000000 in
theorem co_a208 : e2_okSB E_a208.length as_a208 f_a208 rs_a208 = true := by decide +kernel
def al_a208_0 : List ev_V := [(2, 59, 0), (11, 2147483649, 2147483656), (11, 2147483648, 2147483903), (1, 2, 4294967296), (11, 2147483648, 2147483655), (1, 3, 4294967296)]
def E_a208_0 : e2_E := [(2147483648, 2147583648, 0, 0), (2147483652, 2147483668, 1, 0), (2147483648, 2147483655, 2, 0), (2147483647, 2147483655, 3, 0)]
noncomputable def h_a208_0 : ev_H := (an934 : e2_Q8)
def al_a208_1 : List ev_V := [(2, 59, 0), (11, 2147483648, 2147483656), (11, 2147483648, 2147483903), (1, 2, 4294967296), (9, 0, 0), (9, 0, 0)]
def E_a208_1 : e2_E := [(2147483648, 2147583648, 0, 0), (2147483652, 2147483668, 1, 0), (2147483648, 2147483656, 2, 0)]
noncomputable def h_a208_1 : ev_H := (an934 : e2_Q8)
noncomputable def cl_a208_e : List (Nat × e2_S) := [(4, e2_cutL (al_a208_1.set 3 (11, 2147483648, 2147483656)) 2 (E_a208_1.take 2) h_a208_1)]
set_option maxRecDepth 1000000 in
theorem ck_a208_e : e2_run (e2_cal S_a208 I_a208 4000 1) (e2_fin rs_a208) e2x_79 (e2_bpL cl_a208_e) (e2_cutA cl_a208_e) 4000 (e2_seek e2x_79 0) (e2_al 6 as_a208) [] E_a208 f_a208 = true := by decide +kernel
noncomputable def cl_a208_0 : List (Nat × e2_S) := [(17, e2_cutL (al_a208_0.set 5 (12, 11, 2147483647)) 3 (E_a208_0.take 3) h_a208_0),
  (4, e2_cutL (al_a208_1.set 3 (13, 10, 2147483656)) 2 (E_a208_1.take 2) h_a208_1)]
set_option maxRecDepth 1000000 in
theorem ck_a208_0 : e2_runM (e2_cal S_a208 I_a208 4000 1) (e2_fin rs_a208) e2x_79 (e2_bpL cl_a208_0) (e2_cutA cl_a208_0) 4000 (e2_seek e2x_79 17) al_a208_0 [] E_a208_0 h_a208_0 = true := by decide +kernel
set_option maxRecDepth 1000000 in
theorem ci_a208_0 : e2_idl 3 (al_a208_0.set 5 (9, 0, 0)) = true := by decide +kernel
set_option maxRecDepth 1000000 in
theorem cj_a208_0 : e2_idh 3 8 h_a208_0 = true := by decide +kernel
noncomputable def cl_a208_1 : List (Nat × e2_S) := [(17, e2_cutL (al_a208_0.set 5 (11, 2147483647, 2147483655)) 3 (E_a208_0.take 3) h_a208_0)]
set_option maxRecDepth 1000000 in
theorem ck_a208_1 : e2_runM (e2_cal S_a208 I_a208 4000 1) (e2_fin rs_a208) e2x_79 (e2_bpL cl_a208_1) (e2_cutA cl_a208_1) 4000 (e2_seek e2x_79 4) al_a208_1 [] E_a208_1 h_a208_1 = true := by decide +kernel
set_option maxRecDepth 1000000 in
theorem ci_a208_1 : e2_idl 2 (al_a208_1.set 3 (9, 0, 0)) = true := by decide +kernel
set_option maxRecDepth 1000000 in
theorem cj_a208_1 : e2_idh 2 8 h_a208_1 = true := by decide +kernel
theorem cs_a208 (hen : en_ok) (l : Launch) : e2_smOk l 2 s_a208 := by
  refine e2_conG (H := 0) (n := 1) (C := evd_79) (S := S_a208) (I := I_a208) (fuel := 4000) hen ei_79 e2_fz (e2_fa ein_64 (e2_fa ein_159 e2_fz)) (by decide) co_a208 fun M d _ hC hcall p e R s m args below meth c Q D cA A ads r0 ha hl0 => ?_
  have L_1 : e2_gdM M p l e R s m args below meth c Q D cA A ads r0 4 al_a208_1 [] E_a208_1 h_a208_1 := by
    refine e2_indL (u := 2) (j := 3) (lo := 2147483648) (hi := 2147483656) (b := 2) (dd := 0) hl0 (by decide) rfl rfl (Or.inr ⟨rfl, rfl⟩) rfl ci_a208_1 cj_a208_1 ?_
    intro r_1 k_1 hk_1 hp_1 hs_1 hn_1
    have hl_1 : r_1.length ≤ 3 := hs_1.len rfl
    have ha_1 := ha.ext hp_1
    have L_0 : e2_gdM M p l e R s m args below meth c Q D cA A ads r_1 17 al_a208_0 [] E_a208_0 h_a208_0 := by
      refine e2_indD (u := 3) (j := 5) (lo := 2147483647) (hi := 2147483655) hl_1 (by decide) rfl rfl rfl ci_a208_0 cj_a208_0 ?_
      intro r_0 k_0 hk_0 hp_0 hs_0 hn_0
      have hl_0 : r_0.length ≤ 4 := hs_0.len rfl
      have ha_0 := ha_1.ext hp_0
      exact e2_fromM hen ha_0 hcall (e2_cutA_ok (e2_fa (fun al st E h hc => hn_0 al st E h hc) (e2_fa (fun al st E h hc => (hn_1 al st E h hc).ext hp_0) e2_fz))) (hC [37, 68]) (X := e2x_79) ex2_79 17 ck_a208_0
    have EN_0 := e2_entL (u := 3) (j := 5) (lo := 2147483647) (hi := 2147483655) hl_1 rfl rfl rfl ci_a208_0 cj_a208_0 L_0
    exact e2_fromM hen ha_1 hcall (e2_cutA_ok (e2_fa (fun al st E h hc => EN_0 al st E h hc) e2_fz)) (hC [37, 68]) (X := e2x_79) ex2_79 4 ck_a208_1
  have EN_1 := e2_entL (u := 2) (j := 3) (lo := 2147483648) (hi := 2147483656) hl0 rfl rfl rfl ci_a208_1 cj_a208_1 L_1
  exact e2_from hen ha hcall (e2_cutA_ok (e2_fa (fun al st E h hc => EN_1 al st E h hc) e2_fz)) (hC [37, 68]) (X := e2x_79) ex2_79 0 ck_a208_e
/-! a209 X4_listMembers -/
def as_a209 : List ev_V := [(2, 59, 0), (11, 0, 4294967295)]
def E_a209 : e2_E := [(2147483648, 2147583648, 0, 0), (2147483652, 2147483668, 1, 0)]
def an935 : e2_Q5 := (an324, an156)
def an936 : e2_Q6 := (an935, an188)
def an937 : e2_Q7 := (an936, an900)
def an938 : e2_Q8 := (an920, an937)
noncomputable def f_a209 : ev_H := (an938 : e2_Q8)
noncomputable def q_a209_0 : ev_H := (an938 : e2_Q8)
noncomputable def rs_a209 : e2_Rs := [((11, 2147483648, 2147483656), q_a209_0)]
noncomputable def s_a209 : e2_Sm := (76, as_a209, E_a209, f_a209, rs_a209)
noncomputable def S_a209 : List e2_Sm := []
noncomputable def I_a209 : List e2_In := [(159, 2, e2x_159)]
set_option maxRecDepth 1000000 in
theorem co_a209 : e2_okSB E_a209.length as_a209 f_a209 rs_a209 = true := by decide +kernel
def al_a209_0 : List ev_V := [(2, 59, 0), (11, 0, 4294967295), (11, 2147483648, 2147483656), (1, 2, 4294967296)]
def E_a209_0 : e2_E := [(2147483648, 2147583648, 0, 0), (2147483652, 2147483668, 1, 0), (2147483648, 2147483668, 2, 0)]
noncomputable def h_a209_0 : ev_H := (an938 : e2_Q8)
noncomputable def cl_a209_e : List (Nat × e2_S) := [(4, e2_cutL (al_a209_0.set 3 (11, 2147483648, 2147483668)) 2 (E_a209_0.take 2) h_a209_0)]
set_option maxRecDepth 1000000 in
theorem ck_a209_e : e2_run (e2_cal S_a209 I_a209 4000 1) (e2_fin rs_a209) e2x_76 (e2_bpL cl_a209_e) (e2_cutA cl_a209_e) 4000 (e2_seek e2x_76 0) (e2_al 4 as_a209) [] E_a209 f_a209 = true := by decide +kernel
noncomputable def cl_a209_0 : List (Nat × e2_S) := [(4, e2_cutL (al_a209_0.set 3 (13, 10, 2147483668)) 2 (E_a209_0.take 2) h_a209_0)]
set_option maxRecDepth 1000000 in
theorem ck_a209_0 : e2_runM (e2_cal S_a209 I_a209 4000 1) (e2_fin rs_a209) e2x_76 (e2_bpL cl_a209_0) (e2_cutA cl_a209_0) 4000 (e2_seek e2x_76 4) al_a209_0 [] E_a209_0 h_a209_0 = true := by decide +kernel
set_option maxRecDepth 1000000 in
theorem ci_a209_0 : e2_idl 2 (al_a209_0.set 3 (9, 0, 0)) = true := by decide +kernel
set_option maxRecDepth 1000000 in
theorem cj_a209_0 : e2_idh 2 8 h_a209_0 = true := by decide +kernel
theorem cs_a209 (hen : en_ok) (l : Launch) : e2_smOk l 2 s_a209 := by
  refine e2_conG (H := 0) (n := 1) (C := evd_76) (S := S_a209) (I := I_a209) (fuel := 4000) hen ei_76 e2_fz (e2_fa ein_159 e2_fz) (by decide) co_a209 fun M d _ hC hcall p e R s m args below meth c Q D cA A ads r0 ha hl0 => ?_
  have L_0 : e2_gdM M p l e R s m args below meth c Q D cA A ads r0 4 al_a209_0 [] E_a209_0 h_a209_0 := by
    refine e2_indL (u := 2) (j := 3) (lo := 2147483648) (hi := 2147483668) (b := 2) (dd := 0) hl0 (by decide) rfl rfl (Or.inr ⟨rfl, rfl⟩) rfl ci_a209_0 cj_a209_0 ?_
    intro r_0 k_0 hk_0 hp_0 hs_0 hn_0
    have hl_0 : r_0.length ≤ 3 := hs_0.len rfl
    have ha_0 := ha.ext hp_0
    exact e2_fromM hen ha_0 hcall (e2_cutA_ok (e2_fa (fun al st E h hc => hn_0 al st E h hc) e2_fz)) (hC []) (X := e2x_76) ex2_76 4 ck_a209_0
  have EN_0 := e2_entL (u := 2) (j := 3) (lo := 2147483648) (hi := 2147483668) hl0 rfl rfl rfl ci_a209_0 cj_a209_0 L_0
  exact e2_from hen ha hcall (e2_cutA_ok (e2_fa (fun al st E h hc => EN_0 al st E h hc) e2_fz)) (hC []) (X := e2x_76) ex2_76 0 ck_a209_e
/-! a210 X4_waysOn -/
def as_a210 : List ev_V := [(2, 59, 0), (11, 2147483648, 2147483903), (11, 2147483648, 2147483656)]
def E_a210 : e2_E := [(2147483648, 2147583648, 0, 0), (2147483652, 2147483668, 1, 0)]
def an939 : e2_Q8 := (an475, an933)
noncomputable def f_a210 : ev_H := (an939 : e2_Q8)
noncomputable def q_a210_0 : ev_H := (an939 : e2_Q8)
noncomputable def rs_a210 : e2_Rs := [((11, 0, 4294967295), q_a210_0)]
noncomputable def s_a210 : e2_Sm := (78, as_a210, E_a210, f_a210, rs_a210)
noncomputable def S_a210 : List e2_Sm := []
noncomputable def I_a210 : List e2_In := [(159, 2, e2x_159)]
set_option maxRecDepth 1000000 in
theorem co_a210 : e2_okSB E_a210.length as_a210 f_a210 rs_a210 = true := by decide +kernel
def al_a210_0 : List ev_V := [(2, 59, 0), (11, 2147483648, 2147483903), (11, 2147483648, 2147483656), (11, 0, 4294967295), (1, 2, 4294967296)]
def E_a210_0 : e2_E := [(2147483648, 2147583648, 0, 0), (2147483652, 2147483668, 1, 0), (2147483648, 2147483656, 2, 0)]
noncomputable def h_a210_0 : ev_H := (an939 : e2_Q8)
noncomputable def cl_a210_e : List (Nat × e2_S) := [(5, e2_cutL (al_a210_0.set 4 (11, 2147483648, 2147483656)) 2 (E_a210_0.take 2) h_a210_0)]
set_option maxRecDepth 1000000 in
theorem ck_a210_e : e2_run (e2_cal S_a210 I_a210 4000 1) (e2_fin rs_a210) e2x_78 (e2_bpL cl_a210_e) (e2_cutA cl_a210_e) 4000 (e2_seek e2x_78 0) (e2_al 5 as_a210) [] E_a210 f_a210 = true := by decide +kernel
noncomputable def cl_a210_0 : List (Nat × e2_S) := [(5, e2_cutL (al_a210_0.set 4 (13, 10, 2147483656)) 2 (E_a210_0.take 2) h_a210_0)]
set_option maxRecDepth 1000000 in
theorem ck_a210_0 : e2_runM (e2_cal S_a210 I_a210 4000 1) (e2_fin rs_a210) e2x_78 (e2_bpL cl_a210_0) (e2_cutA cl_a210_0) 4000 (e2_seek e2x_78 5) al_a210_0 [] E_a210_0 h_a210_0 = true := by decide +kernel
set_option maxRecDepth 1000000 in
theorem ci_a210_0 : e2_idl 2 (al_a210_0.set 4 (9, 0, 0)) = true := by decide +kernel
set_option maxRecDepth 1000000 in
theorem cj_a210_0 : e2_idh 2 8 h_a210_0 = true := by decide +kernel
theorem cs_a210 (hen : en_ok) (l : Launch) : e2_smOk l 2 s_a210 := by
  refine e2_conG (H := 0) (n := 1) (C := evd_78) (S := S_a210) (I := I_a210) (fuel := 4000) hen ei_78 e2_fz (e2_fa ein_159 e2_fz) (by decide) co_a210 fun M d _ hC hcall p e R s m args below meth c Q D cA A ads r0 ha hl0 => ?_
  have L_0 : e2_gdM M p l e R s m args below meth c Q D cA A ads r0 5 al_a210_0 [] E_a210_0 h_a210_0 := by
    refine e2_indL (u := 2) (j := 4) (lo := 2147483648) (hi := 2147483656) (b := 2) (dd := 0) hl0 (by decide) rfl rfl (Or.inr ⟨rfl, rfl⟩) rfl ci_a210_0 cj_a210_0 ?_
    intro r_0 k_0 hk_0 hp_0 hs_0 hn_0
    have hl_0 : r_0.length ≤ 3 := hs_0.len rfl
    have ha_0 := ha.ext hp_0
    exact e2_fromM hen ha_0 hcall (e2_cutA_ok (e2_fa (fun al st E h hc => hn_0 al st E h hc) e2_fz)) (hC [27]) (X := e2x_78) ex2_78 5 ck_a210_0
  have EN_0 := e2_entL (u := 2) (j := 4) (lo := 2147483648) (hi := 2147483656) hl0 rfl rfl rfl ci_a210_0 cj_a210_0 L_0
  exact e2_from hen ha hcall (e2_cutA_ok (e2_fa (fun al st E h hc => EN_0 al st E h hc) e2_fz)) (hC [27]) (X := e2x_78) ex2_78 0 ck_a210_e
/-! a211 X4_countOrders -/
def as_a211 : List ev_V := [(2, 59, 0), (11, 0, 4294967295)]
def E_a211 : e2_E := [(2147483648, 2147583648, 0, 0), (2147483652, 2147483668, 1, 0)]
def an940 : e2_Q5 := (an401, an917)
def an941 : e2_Q6 := (an397, an940)
def an942 : e2_Q7 := (an911, an941)
def an943 : e2_Q5 := (an417, an930)
def an944 : e2_Q6 := (an854, an943)
def an945 : e2_Q7 := (an412, an944)
def an946 : e2_Q8 := (an942, an945)
noncomputable def f_a211 : ev_H := (an946 : e2_Q8)
def an947 : e2_Q5 := (an434, an930)
def an948 : e2_Q6 := (an854, an947)
def an949 : e2_Q7 := (an431, an948)
def an950 : e2_Q8 := (an942, an949)
noncomputable def q_a211_0 : ev_H := (an950 : e2_Q8)
noncomputable def q_a211_1 : ev_H := (an946 : e2_Q8)
noncomputable def rs_a211 : e2_Rs := [((11, 0, 4294967295), q_a211_0), ((11, 0, 4294967295), q_a211_1)]
noncomputable def s_a211 : e2_Sm := (75, as_a211, E_a211, f_a211, rs_a211)
noncomputable def S_a211 : List e2_Sm := [s_a191, s_a192, s_a207, s_a208, s_a209, s_a210]
noncomputable def I_a211 : List e2_In := []
set_option maxRecDepth 1000000 in
theorem co_a211 : e2_okSB E_a211.length as_a211 f_a211 rs_a211 = true := by decide +kernel
def al_a211_0 : List ev_V := [(2, 59, 0), (11, 0, 4294967295), (11, 2147483648, 2147483656), (11, 2147483648, 2147483903), (1, 2, 4294967296)]
def E_a211_0 : e2_E := [(2147483648, 2147583648, 0, 0), (2147483652, 2147483668, 1, 0), (2147483647, 2147483902, 2, 0)]
noncomputable def h_a211_0 : ev_H := (an950 : e2_Q8)
def al_a211_1 : List ev_V := [(2, 59, 0), (11, 0, 4294967295), (11, 2147483648, 2147483656), (11, 2147483648, 2147483903), (1, 2, 4294967296)]
def E_a211_1 : e2_E := [(2147483648, 2147583648, 0, 0), (2147483652, 2147483668, 1, 0), (2147483647, 2147483903, 2, 0)]
noncomputable def h_a211_1 : ev_H := (an946 : e2_Q8)
noncomputable def cl_a211_e : List (Nat × e2_S) := [(22, e2_cutL (al_a211_1.set 4 (11, 2147483647, 2147483903)) 2 (E_a211_1.take 2) h_a211_1)]
set_option maxRecDepth 1000000 in
theorem ck_a211_e : e2_run (e2_cal S_a211 I_a211 4000 0) (e2_fin rs_a211) e2x_75 (e2_bpL cl_a211_e) (e2_cutA cl_a211_e) 4000 (e2_seek e2x_75 0) (e2_al 5 as_a211) [] E_a211 f_a211 = true := by decide +kernel
noncomputable def cl_a211_0 : List (Nat × e2_S) := [(22, e2_cutL (al_a211_0.set 4 (12, 10, 2147483647)) 2 (E_a211_0.take 2) h_a211_0)]
set_option maxRecDepth 1000000 in
theorem ck_a211_0 : e2_runM (e2_cal S_a211 I_a211 4000 0) (e2_fin rs_a211) e2x_75 (e2_bpL cl_a211_0) (e2_cutA cl_a211_0) 4000 (e2_seek e2x_75 22) al_a211_0 [] E_a211_0 h_a211_0 = true := by decide +kernel
set_option maxRecDepth 1000000 in
theorem ci_a211_0 : e2_idl 2 (al_a211_0.set 4 (9, 0, 0)) = true := by decide +kernel
set_option maxRecDepth 1000000 in
theorem cj_a211_0 : e2_idh 2 8 h_a211_0 = true := by decide +kernel
noncomputable def cl_a211_1 : List (Nat × e2_S) := [(22, e2_cutL (al_a211_0.set 4 (11, 2147483647, 2147483902)) 2 (E_a211_0.take 2) h_a211_0),
  (22, e2_cutL (al_a211_1.set 4 (12, 10, 2147483647)) 2 (E_a211_1.take 2) h_a211_1)]
set_option maxRecDepth 1000000 in
theorem ck_a211_1 : e2_runM (e2_cal S_a211 I_a211 4000 0) (e2_fin rs_a211) e2x_75 (e2_bpL cl_a211_1) (e2_cutA cl_a211_1) 4000 (e2_seek e2x_75 22) al_a211_1 [] E_a211_1 h_a211_1 = true := by decide +kernel
set_option maxRecDepth 1000000 in
theorem ci_a211_1 : e2_idl 2 (al_a211_1.set 4 (9, 0, 0)) = true := by decide +kernel
set_option maxRecDepth 1000000 in
theorem cj_a211_1 : e2_idh 2 8 h_a211_1 = true := by decide +kernel
theorem cs_a211 (hen : en_ok) (l : Launch) (hh : e2_hand_a l) : e2_smOk l 62 s_a211 := by
  refine e2_conG (H := 61) (n := 0) (C := evd_75) (S := S_a211) (I := I_a211) (fuel := 4000) hen ei_75 (e2_fa (cs_a191 hen l hh) (e2_fa (cs_a192 hen l hh) (e2_fa ((cs_a207 hen l).mono (by decide)) (e2_fa ((cs_a208 hen l).mono (by decide)) (e2_fa ((cs_a209 hen l).mono (by decide)) (e2_fa ((cs_a210 hen l).mono (by decide)) e2_fz)))))) e2_fz (by decide) co_a211 fun M d _ hC hcall p e R s m args below meth c Q D cA A ads r0 ha hl0 => ?_
  have L_0 : e2_gdM M p l e R s m args below meth c Q D cA A ads r0 22 al_a211_0 [] E_a211_0 h_a211_0 := by
    refine e2_indD (u := 2) (j := 4) (lo := 2147483647) (hi := 2147483902) hl0 (by decide) rfl rfl rfl ci_a211_0 cj_a211_0 ?_
    intro r_0 k_0 hk_0 hp_0 hs_0 hn_0
    have hl_0 : r_0.length ≤ 3 := hs_0.len rfl
    have ha_0 := ha.ext hp_0
    exact e2_fromM hen ha_0 hcall (e2_cutA_ok (e2_fa (fun al st E h hc => hn_0 al st E h hc) e2_fz)) (hC [7]) (X := e2x_75) ex2_75 22 ck_a211_0
  have EN_0 := e2_entL (u := 2) (j := 4) (lo := 2147483647) (hi := 2147483902) hl0 rfl rfl rfl ci_a211_0 cj_a211_0 L_0
  have L_1 : e2_gdM M p l e R s m args below meth c Q D cA A ads r0 22 al_a211_1 [] E_a211_1 h_a211_1 := by
    refine e2_indD (u := 2) (j := 4) (lo := 2147483647) (hi := 2147483903) hl0 (by decide) rfl rfl rfl ci_a211_1 cj_a211_1 ?_
    intro r_1 k_1 hk_1 hp_1 hs_1 hn_1
    have hl_1 : r_1.length ≤ 3 := hs_1.len rfl
    have ha_1 := ha.ext hp_1
    exact e2_fromM hen ha_1 hcall (e2_cutA_ok (e2_fa (fun al st E h hc => (EN_0 al st E h hc).ext hp_1) (e2_fa (fun al st E h hc => hn_1 al st E h hc) e2_fz))) (hC [7]) (X := e2x_75) ex2_75 22 ck_a211_1
  have EN_1 := e2_entL (u := 2) (j := 4) (lo := 2147483647) (hi := 2147483903) hl0 rfl rfl rfl ci_a211_1 cj_a211_1 L_1
  exact e2_from hen ha hcall (e2_cutA_ok (e2_fa (fun al st E h hc => EN_1 al st E h hc) e2_fz)) (hC [7]) (X := e2x_75) ex2_75 0 ck_a211_e
