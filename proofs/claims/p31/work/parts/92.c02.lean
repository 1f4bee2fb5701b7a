/-! CONTRACTS c, printed by a program -/
/-! c187 X5_weighEverywhere -/
def as_c187 : List ev_V := [(2, 65, 0), (11, 2147483648, 2147483655), (0, 4294967295, 0)]
def E_c187 : e2_E := [(2147483648, 2147583648, 0, 0), (2147483652, 2147483668, 1, 0)]
def cn784 : e2_Q4 := (cn389, cn76)
def cn785 : e2_Q5 := (cn784, cn92)
def cn786 : e2_Q6 := (cn785, cn124)
def cn787 : e2_Q7 := (cn485, cn786)
def cn788 : e2_Q5 := (cn408, cn156)
def cn789 : e2_Q6 := (cn788, cn496)
def cn790 : e2_Q7 := (cn789, cn541)
def cn791 : e2_Q8 := (cn787, cn790)
noncomputable def f_c187 : ev_H := (cn791 : e2_Q8)
noncomputable def q_c187_0 : ev_H := (cn791 : e2_Q8)
noncomputable def rs_c187 : e2_Rs := [((9, 0, 0), q_c187_0)]
noncomputable def s_c187 : e2_Sm := (87, as_c187, E_c187, f_c187, rs_c187)
noncomputable def S_c187 : List e2_Sm := [s_c13]
noncomputable def I_c187 : List e2_In := [(160, 2, e2x_160)]
set_option maxRecDepth 1000000 in
theorem co_c187 : e2_okSB E_c187.length as_c187 f_c187 rs_c187 = true := by decide +kernel
def al_c187_0 : List ev_V := [(2, 65, 0), (11, 2147483648, 2147483655), (0, 4294967295, 0), (1, 2, 4294967296)]
def E_c187_0 : e2_E := [(2147483648, 2147583648, 0, 0), (2147483652, 2147483668, 1, 0), (2147483648, 2147483668, 2, 0)]
noncomputable def h_c187_0 : ev_H := (cn791 : e2_Q8)
noncomputable def cl_c187_e : List (Nat × e2_S) := [(2, e2_cutL (al_c187_0.set 3 (11, 2147483648, 2147483668)) 2 (E_c187_0.take 2) h_c187_0)]
set_option maxRecDepth 1000000 in
theorem ck_c187_e : e2_run (e2_cal S_c187 I_c187 4000 1) (e2_fin rs_c187) e2x_87 (e2_bpL cl_c187_e) (e2_cutA cl_c187_e) 4000 (e2_seek e2x_87 0) (e2_al 4 as_c187) [] E_c187 f_c187 = true := by decide +kernel
noncomputable def cl_c187_0 : List (Nat × e2_S) := [(2, e2_cutL (al_c187_0.set 3 (13, 10, 2147483668)) 2 (E_c187_0.take 2) h_c187_0)]
set_option maxRecDepth 1000000 in
theorem ck_c187_0 : e2_runM (e2_cal S_c187 I_c187 4000 1) (e2_fin rs_c187) e2x_87 (e2_bpL cl_c187_0) (e2_cutA cl_c187_0) 4000 (e2_seek e2x_87 2) al_c187_0 [] E_c187_0 h_c187_0 = true := by decide +kernel
set_option maxRecDepth 1000000 in
theorem ci_c187_0 : e2_idl 2 (al_c187_0.set 3 (9, 0, 0)) = true := by decide +kernel
set_option maxRecDepth 1000000 in
theorem cj_c187_0 : e2_idh 2 8 h_c187_0 = true := by decide +kernel
theorem cs_c187 (hen : en_ok) (l : Launch) : e2_smOk l 4 s_c187 := by
  refine e2_conG (H := 2) (n := 1) (C := evd_87) (S := S_c187) (I := I_c187) (fuel := 4000) hen ei_87 (e2_fa (cs_c13 hen l) e2_fz) (e2_fa ein_160 e2_fz) (by decide) co_c187 fun M d _ hC hcall p e R s m args below meth c Q D cA A ads r0 ha hl0 => ?_
  have L_0 : e2_gdM M p l e R s m args below meth c Q D cA A ads r0 2 al_c187_0 [] E_c187_0 h_c187_0 := by
    refine e2_indL (u := 2) (j := 3) (lo := 2147483648) (hi := 2147483668) (b := 2) (dd := 0) hl0 (by decide) rfl rfl (Or.inr ⟨rfl, rfl⟩) rfl ci_c187_0 cj_c187_0 ?_
    intro r_0 k_0 hk_0 hp_0 hs_0 hn_0
    have hl_0 : r_0.length ≤ 3 := hs_0.len rfl
    have ha_0 := ha.ext hp_0
    exact e2_fromM hen ha_0 hcall (e2_cutA_ok (e2_fa (fun al st E h hc => hn_0 al st E h hc) e2_fz)) (hC []) (X := e2x_87) ex2_87 2 ck_c187_0
  have EN_0 := e2_entL (u := 2) (j := 3) (lo := 2147483648) (hi := 2147483668) hl0 rfl rfl rfl ci_c187_0 cj_c187_0 L_0
  exact e2_from hen ha hcall (e2_cutA_ok (e2_fa (fun al st E h hc => EN_0 al st E h hc) e2_fz)) (hC []) (X := e2x_87) ex2_87 0 ck_c187_e
/-! c188 X5_begin -/
def as_c188 : List ev_V := [(2, 65, 0), (2, 17, 0), (2, 36, 0), (0, 4294967295, 0)]
def E_c188 : e2_E := [(2147483648, 2147583648, 0, 0), (2147483652, 2147483668, 1, 0)]
def cn792 : e2_Q3 := (cn288, cn450)
def cn793 : e2_Q4 := (cn792, cn44)
def cn794 : e2_Q5 := (cn793, cn483)
def cn795 : e2_Q6 := (cn379, cn794)
def cn796 : e2_Q5 := (cn392, cn92)
def cn797 : e2_Q6 := (cn796, cn402)
def cn798 : e2_Q7 := (cn795, cn797)
def cc182 : ev_C := (5, [(2, 68, 0), (11, 0, 4294967295), (2, 69, 0), (2, 72, 0), (7, 0, 0), (2, 70, 0), (11, 2147483648, 2147483649), (2, 67, 0), (11, 2147483648, 2147483668), (2, 71, 0), (2, 66, 0), (2, 73, 0), (2, 74, 0), (2, 75, 0), (2, 76, 0)])
def cn799 : e2_Q1 := (cc182, cc3)
def cn800 : e2_Q2 := (cn127, cn799)
def cn801 : e2_Q3 := (cn800, cn132)
def cn802 : e2_Q4 := (cn801, cn322)
def cn803 : e2_Q5 := (cn802, cn156)
def cn804 : e2_Q3 := (cn331, cn465)
def cn805 : e2_Q4 := (cn804, cn699)
def cn806 : e2_Q5 := (cn805, cn495)
def cn807 : e2_Q6 := (cn803, cn806)
def cn808 : e2_Q4 := (cn538, cn341)
def cn809 : e2_Q5 := (cn808, cn501)
def cn810 : e2_Q2 := (cn705, cn229)
def cn811 : e2_Q3 := (cn810, cn233)
def cn812 : e2_Q4 := (cn345, cn811)
def cn813 : e2_Q5 := (cn812, cn250)
def cn814 : e2_Q6 := (cn809, cn813)
def cn815 : e2_Q7 := (cn807, cn814)
def cn816 : e2_Q8 := (cn798, cn815)
noncomputable def f_c188 : ev_H := (cn816 : e2_Q8)
def cn817 : e2_Q3 := (cn380, cn450)
def cn818 : e2_Q4 := (cn817, cn44)
def cn819 : e2_Q5 := (cn818, cn483)
def cn820 : e2_Q6 := (cn379, cn819)
def cn821 : e2_Q7 := (cn820, cn797)
def cn822 : e2_Q6 := (cn788, cn806)
def cn823 : e2_Q7 := (cn822, cn814)
def cn824 : e2_Q8 := (cn821, cn823)
noncomputable def q_c188_0 : ev_H := (cn824 : e2_Q8)
noncomputable def rs_c188 : e2_Rs := [((9, 0, 0), q_c188_0)]
noncomputable def s_c188 : e2_Sm := (86, as_c188, E_c188, f_c188, rs_c188)
noncomputable def S_c188 : List e2_Sm := [s_c187]
noncomputable def I_c188 : List e2_In := []
set_option maxRecDepth 1000000 in
theorem co_c188 : e2_okSB E_c188.length as_c188 f_c188 rs_c188 = true := by decide +kernel
def al_c188_0 : List ev_V := [(2, 65, 0), (2, 17, 0), (2, 36, 0), (0, 4294967295, 0), (1, 1, 4294967296), (1, 2, 4294967296)]
def E_c188_0 : e2_E := [(2147483648, 2147583648, 0, 0), (2147483652, 2147483668, 1, 0), (2147483648, 2147483656, 2, 0)]
noncomputable def h_c188_0 : ev_H := (cn824 : e2_Q8)
noncomputable def cl_c188_e : List (Nat × e2_S) := [(74, e2_cutL (al_c188_0.set 5 (11, 2147483648, 2147483656)) 2 (E_c188_0.take 2) h_c188_0)]
set_option maxRecDepth 1000000 in
theorem ck_c188_e : e2_run (e2_cal S_c188 I_c188 4000 0) (e2_fin rs_c188) e2x_86 (e2_bpL cl_c188_e) (e2_cutA cl_c188_e) 4000 (e2_seek e2x_86 0) (e2_al 6 as_c188) [] E_c188 f_c188 = true := by decide +kernel
noncomputable def cl_c188_0 : List (Nat × e2_S) := [(74, e2_cutL (al_c188_0.set 5 (13, 10, 2147483656)) 2 (E_c188_0.take 2) h_c188_0)]
set_option maxRecDepth 1000000 in
theorem ck_c188_0 : e2_runM (e2_cal S_c188 I_c188 4000 0) (e2_fin rs_c188) e2x_86 (e2_bpL cl_c188_0) (e2_cutA cl_c188_0) 4000 (e2_seek e2x_86 74) al_c188_0 [] E_c188_0 h_c188_0 = true := by decide +kernel
set_option maxRecDepth 1000000 in
theorem ci_c188_0 : e2_idl 2 (al_c188_0.set 5 (9, 0, 0)) = true := by decide +kernel
set_option maxRecDepth 1000000 in
theorem cj_c188_0 : e2_idh 2 8 h_c188_0 = true := by decide +kernel
theorem cs_c188 (hen : en_ok) (l : Launch) : e2_smOk l 5 s_c188 := by
  refine e2_conG (H := 4) (n := 0) (C := evd_86) (S := S_c188) (I := I_c188) (fuel := 4000) hen ei_86 (e2_fa (cs_c187 hen l) e2_fz) e2_fz (by decide) co_c188 fun M d _ hC hcall p e R s m args below meth c Q D cA A ads r0 ha hl0 => ?_
  have L_0 : e2_gdM M p l e R s m args below meth c Q D cA A ads r0 74 al_c188_0 [] E_c188_0 h_c188_0 := by
    refine e2_indL (u := 2) (j := 5) (lo := 2147483648) (hi := 2147483656) (b := 2) (dd := 0) hl0 (by decide) rfl rfl (Or.inr ⟨rfl, rfl⟩) rfl ci_c188_0 cj_c188_0 ?_
    intro r_0 k_0 hk_0 hp_0 hs_0 hn_0
    have hl_0 : r_0.length ≤ 3 := hs_0.len rfl
    have ha_0 := ha.ext hp_0
    exact e2_fromM hen ha_0 hcall (e2_cutA_ok (e2_fa (fun al st E h hc => hn_0 al st E h hc) e2_fz)) (hC []) (X := e2x_86) ex2_86 74 ck_c188_0
  have EN_0 := e2_entL (u := 2) (j := 5) (lo := 2147483648) (hi := 2147483656) hl0 rfl rfl rfl ci_c188_0 cj_c188_0 L_0
  exact e2_from hen ha hcall (e2_cutA_ok (e2_fa (fun al st E h hc => EN_0 al st E h hc) e2_fz)) (hC []) (X := e2x_86) ex2_86 0 ck_c188_e
/-! c189 X4_begin -/
def as_c189 : List ev_V := [(2, 59, 0), (2, 17, 0), (2, 36, 0)]
def E_c189 : e2_E := [(2147483648, 2147583648, 0, 0), (2147483652, 2147483668, 1, 0)]
def cc183 : ev_C := (4, [(2, 65, 0), (2, 63, 0), (7, 0, 0), (11, 0, 4294967295), (2, 62, 0), (11, 0, 4294967295), (11, 2147483648, 2147483668), (2, 60, 0), (11, 2147483648, 2147483668), (11, 0, 4294967295), (11, 0, 4294967295), (2, 61, 0), (2, 64, 0), (11, 2147483648, 2147483651)])
def cn825 : e2_Q1 := (cc183, cc3)
def cn826 : e2_Q2 := (cn825, cn216)
def cn827 : e2_Q3 := (cn499, cn826)
def cn828 : e2_Q4 := (cn211, cn827)
def cn829 : e2_Q5 := (cn808, cn828)
def cn830 : e2_Q6 := (cn829, cn813)
def cn831 : e2_Q7 := (cn807, cn830)
def cn832 : e2_Q8 := (cn798, cn831)
noncomputable def f_c189 : ev_H := (cn832 : e2_Q8)
def cc184 : ev_C := (4, [(2, 65, 0), (2, 63, 0), (2, 17, 0), (11, 0, 4294967295), (2, 62, 0), (11, 0, 4294967295), (11, 2147483648, 2147483668), (2, 60, 0), (11, 2147483648, 2147483668), (11, 0, 4294967295), (11, 0, 4294967295), (2, 61, 0), (2, 64, 0), (11, 2147483648, 2147483651)])
def cn833 : e2_Q1 := (cc184, cc3)
def cn834 : e2_Q2 := (cn833, cn216)
def cn835 : e2_Q3 := (cn499, cn834)
def cn836 : e2_Q4 := (cn211, cn835)
def cn837 : e2_Q5 := (cn808, cn836)
def cn838 : e2_Q6 := (cn837, cn813)
def cn839 : e2_Q7 := (cn822, cn838)
def cn840 : e2_Q8 := (cn821, cn839)
noncomputable def q_c189_0 : ev_H := (cn840 : e2_Q8)
noncomputable def rs_c189 : e2_Rs := [((9, 0, 0), q_c189_0)]
noncomputable def s_c189 : e2_Sm := (66, as_c189, E_c189, f_c189, rs_c189)
noncomputable def S_c189 : List e2_Sm := [s_c188]
noncomputable def I_c189 : List e2_In := []
set_option maxRecDepth 1000000 in
theorem ck_c189 : e2_run (e2_cal S_c189 I_c189 4000 0) (e2_fin rs_c189) e2x_66 (fun _ => false) (fun _ _ _ _ _ => false) 4000 (e2_seek e2x_66 0) (e2_al 3 as_c189) [] E_c189 f_c189 = true := by decide +kernel
set_option maxRecDepth 1000000 in
theorem co_c189 : e2_okSB E_c189.length as_c189 f_c189 rs_c189 = true := by decide +kernel
theorem cs_c189 (hen : en_ok) (l : Launch) : e2_smOk l 6 s_c189 := e2_con0 (H := 5) (n := 0) (C := evd_66) (S := S_c189) (I := I_c189) (fuel := 4000) [] hen ei_66 (e2_fa (cs_c188 hen l) e2_fz) e2_fz (by decide) co_c189 ex2_66 ck_c189
/-! c190 X5_takesAway -/
def as_c190 : List ev_V := [(2, 65, 0)]
def E_c190 : e2_E := [(2147483648, 2147583648, 0, 0), (2147483652, 2147483668, 1, 0)]
def cn841 : e2_Q2 := (cn282, cn23)
def cn842 : e2_Q3 := (cn841, cn27)
def cn843 : e2_Q4 := (cn21, cn842)
def cn844 : e2_Q5 := (cn14, cn843)
def cn845 : e2_Q5 := (cn45, cn385)
def cn846 : e2_Q6 := (cn844, cn845)
def cn847 : e2_Q7 := (cn846, cn457)
def cn848 : e2_Q5 := (cn427, cn156)
def cn849 : e2_Q6 := (cn848, cn188)
def cn850 : e2_Q7 := (cn849, cn275)
def cn851 : e2_Q8 := (cn847, cn850)
noncomputable def f_c190 : ev_H := (cn851 : e2_Q8)
noncomputable def q_c190_0 : ev_H := (cn851 : e2_Q8)
noncomputable def rs_c190 : e2_Rs := [((11, 2147483648, 2147483649), q_c190_0)]
noncomputable def s_c190 : e2_Sm := (96, as_c190, E_c190, f_c190, rs_c190)
noncomputable def S_c190 : List e2_Sm := []
noncomputable def I_c190 : List e2_In := []
set_option maxRecDepth 1000000 in
theorem co_c190 : e2_okSB E_c190.length as_c190 f_c190 rs_c190 = true := by decide +kernel
def al_c190_0 : List ev_V := [(2, 65, 0), (1, 2, 4294967296)]
def E_c190_0 : e2_E := [(2147483648, 2147583648, 0, 0), (2147483652, 2147483668, 1, 0), (2147483648, 2147483668, 2, 0)]
noncomputable def h_c190_0 : ev_H := (cn851 : e2_Q8)
noncomputable def cl_c190_e : List (Nat × e2_S) := [(2, e2_cutL (al_c190_0.set 1 (11, 2147483648, 2147483668)) 2 (E_c190_0.take 2) h_c190_0)]
set_option maxRecDepth 1000000 in
theorem ck_c190_e : e2_run (e2_cal S_c190 I_c190 4000 0) (e2_fin rs_c190) e2x_96 (e2_bpL cl_c190_e) (e2_cutA cl_c190_e) 4000 (e2_seek e2x_96 0) (e2_al 2 as_c190) [] E_c190 f_c190 = true := by decide +kernel
noncomputable def cl_c190_0 : List (Nat × e2_S) := [(2, e2_cutL (al_c190_0.set 1 (13, 10, 2147483668)) 2 (E_c190_0.take 2) h_c190_0)]
set_option maxRecDepth 1000000 in
theorem ck_c190_0 : e2_runM (e2_cal S_c190 I_c190 4000 0) (e2_fin rs_c190) e2x_96 (e2_bpL cl_c190_0) (e2_cutA cl_c190_0) 4000 (e2_seek e2x_96 2) al_c190_0 [] E_c190_0 h_c190_0 = true := by decide +kernel
set_option maxRecDepth 1000000 in
theorem ci_c190_0 : e2_idl 2 (al_c190_0.set 1 (9, 0, 0)) = true := by decide +kernel
set_option maxRecDepth 1000000 in
theorem cj_c190_0 : e2_idh 2 8 h_c190_0 = true := by decide +kernel
theorem cs_c190 (hen : en_ok) (l : Launch) : e2_smOk l 1 s_c190 := by
  refine e2_conG (H := 0) (n := 0) (C := evd_96) (S := S_c190) (I := I_c190) (fuel := 4000) hen ei_96 e2_fz e2_fz (by decide) co_c190 fun M d _ hC hcall p e R s m args below meth c Q D cA A ads r0 ha hl0 => ?_
  have L_0 : e2_gdM M p l e R s m args below meth c Q D cA A ads r0 2 al_c190_0 [] E_c190_0 h_c190_0 := by
    refine e2_indL (u := 2) (j := 1) (lo := 2147483648) (hi := 2147483668) (b := 2) (dd := 0) hl0 (by decide) rfl rfl (Or.inr ⟨rfl, rfl⟩) rfl ci_c190_0 cj_c190_0 ?_
    intro r_0 k_0 hk_0 hp_0 hs_0 hn_0
    have hl_0 : r_0.length ≤ 3 := hs_0.len rfl
    have ha_0 := ha.ext hp_0
    exact e2_fromM hen ha_0 hcall (e2_cutA_ok (e2_fa (fun al st E h hc => hn_0 al st E h hc) e2_fz)) (hC []) (X := e2x_96) ex2_96 2 ck_c190_0
  have EN_0 := e2_entL (u := 2) (j := 1) (lo := 2147483648) (hi := 2147483668) hl0 rfl rfl rfl ci_c190_0 cj_c190_0 L_0
  exact e2_from hen ha hcall (e2_cutA_ok (e2_fa (fun al st E h hc => EN_0 al st E h hc) e2_fz)) (hC []) (X := e2x_96) ex2_96 0 ck_c190_e
/-! c191 X4_harms -/
def as_c191 : List ev_V := [(2, 59, 0), (11, 0, 4294967295)]
def E_c191 : e2_E := [(2147483648, 2147583648, 0, 0), (2147483652, 2147483668, 1, 0)]
def cn852 : e2_Q4 := (cn377, cn842)
def cn853 : e2_Q5 := (cn14, cn852)
def cn854 : e2_Q6 := (cn853, cn386)
def cn855 : e2_Q7 := (cn854, cn403)
def cn856 : e2_Q3 := (cn214, cn834)
def cn857 : e2_Q4 := (cn416, cn856)
def cn858 : e2_Q5 := (cn342, cn857)
def cn859 : e2_Q6 := (cn858, cn420)
def cn860 : e2_Q7 := (cn414, cn859)
def cn861 : e2_Q8 := (cn855, cn860)
noncomputable def f_c191 : ev_H := (cn861 : e2_Q8)
def cn862 : e2_Q6 := (cn858, cn437)
def cn863 : e2_Q7 := (cn433, cn862)
def cn864 : e2_Q8 := (cn855, cn863)
noncomputable def q_c191_0 : ev_H := (cn864 : e2_Q8)
noncomputable def rs_c191 : e2_Rs := [((11, 2147483648, 2147483649), q_c191_0)]
noncomputable def s_c191 : e2_Sm := (67, as_c191, E_c191, f_c191, rs_c191)
noncomputable def S_c191 : List e2_Sm := [s_c5, s_c6, s_c190]
noncomputable def I_c191 : List e2_In := []
set_option maxRecDepth 1000000 in
theorem ck_c191 : e2_run (e2_cal S_c191 I_c191 4000 0) (e2_fin rs_c191) e2x_67 (fun _ => false) (fun _ _ _ _ _ => false) 4000 (e2_seek e2x_67 0) (e2_al 2 as_c191) [] E_c191 f_c191 = true := by decide +kernel
set_option maxRecDepth 1000000 in
theorem co_c191 : e2_okSB E_c191.length as_c191 f_c191 rs_c191 = true := by decide +kernel
theorem cs_c191 (hen : en_ok) (l : Launch) (hh : e2_hand_c l) : e2_smOk l 61 s_c191 := e2_con0 (H := 60) (n := 0) (C := evd_67) (S := S_c191) (I := I_c191) (fuel := 4000) [] hen ei_67 (e2_fa (hh _ hm_c5) (e2_fa (hh _ hm_c6) (e2_fa ((cs_c190 hen l).mono (by decide)) e2_fz))) e2_fz (by decide) co_c191 ex2_67 ck_c191
/-! c192 X4_harms -/
def as_c192 : List ev_V := [(2, 59, 0), (11, 0, 4294967295)]
def E_c192 : e2_E := [(2147483648, 2147583648, 0, 0), (2147483652, 2147483668, 1, 0)]
noncomputable def f_c192 : ev_H := (cn864 : e2_Q8)
noncomputable def q_c192_0 : ev_H := (cn864 : e2_Q8)
noncomputable def rs_c192 : e2_Rs := [((11, 2147483648, 2147483649), q_c192_0)]
noncomputable def s_c192 : e2_Sm := (67, as_c192, E_c192, f_c192, rs_c192)
noncomputable def S_c192 : List e2_Sm := [s_c6, s_c7, s_c190]
noncomputable def I_c192 : List e2_In := []
set_option maxRecDepth 1000000 in
theorem ck_c192 : e2_run (e2_cal S_c192 I_c192 4000 0) (e2_fin rs_c192) e2x_67 (fun _ => false) (fun _ _ _ _ _ => false) 4000 (e2_seek e2x_67 0) (e2_al 2 as_c192) [] E_c192 f_c192 = true := by decide +kernel
set_option maxRecDepth 1000000 in
theorem co_c192 : e2_okSB E_c192.length as_c192 f_c192 rs_c192 = true := by decide +kernel
theorem cs_c192 (hen : en_ok) (l : Launch) (hh : e2_hand_c l) : e2_smOk l 61 s_c192 := e2_con0 (H := 60) (n := 0) (C := evd_67) (S := S_c192) (I := I_c192) (fuel := 4000) [] hen ei_67 (e2_fa (hh _ hm_c6) (e2_fa (hh _ hm_c7) (e2_fa ((cs_c190 hen l).mono (by decide)) e2_fz))) e2_fz (by decide) co_c192 ex2_67 ck_c192
/-! c193 X5_gainOf -/
def as_c193 : List ev_V := [(2, 65, 0), (11, 0, 4294967295)]
def E_c193 : e2_E := [(2147483648, 2147583648, 0, 0), (2147483652, 2147483668, 1, 0)]
def cn865 : e2_Q4 := (cn227, cn811)
def cn866 : e2_Q5 := (cn865, cn250)
def cn867 : e2_Q6 := (cn274, cn866)
def cn868 : e2_Q7 := (cn849, cn867)
def cn869 : e2_Q8 := (cn847, cn868)
noncomputable def f_c193 : ev_H := (cn869 : e2_Q8)
noncomputable def q_c193_0 : ev_H := (cn869 : e2_Q8)
noncomputable def rs_c193 : e2_Rs := [((11, 0, 4294967295), q_c193_0)]
noncomputable def s_c193 : e2_Sm := (95, as_c193, E_c193, f_c193, rs_c193)
noncomputable def S_c193 : List e2_Sm := []
noncomputable def I_c193 : List e2_In := []
set_option maxRecDepth 1000000 in
theorem co_c193 : e2_okSB E_c193.length as_c193 f_c193 rs_c193 = true := by decide +kernel
def al_c193_0 : List ev_V := [(2, 65, 0), (11, 0, 4294967295), (11, 0, 4294967295), (1, 2, 4294967296)]
def E_c193_0 : e2_E := [(2147483648, 2147583648, 0, 0), (2147483652, 2147483668, 1, 0), (2147483648, 2147483668, 2, 0)]
noncomputable def h_c193_0 : ev_H := (cn869 : e2_Q8)
noncomputable def cl_c193_e : List (Nat × e2_S) := [(4, e2_cutL (al_c193_0.set 3 (11, 2147483648, 2147483668)) 2 (E_c193_0.take 2) h_c193_0)]
set_option maxRecDepth 1000000 in
theorem ck_c193_e : e2_run (e2_cal S_c193 I_c193 4000 0) (e2_fin rs_c193) e2x_95 (e2_bpL cl_c193_e) (e2_cutA cl_c193_e) 4000 (e2_seek e2x_95 0) (e2_al 4 as_c193) [] E_c193 f_c193 = true := by decide +kernel
noncomputable def cl_c193_0 : List (Nat × e2_S) := [(4, e2_cutL (al_c193_0.set 3 (13, 10, 2147483668)) 2 (E_c193_0.take 2) h_c193_0)]
set_option maxRecDepth 1000000 in
theorem ck_c193_0 : e2_runM (e2_cal S_c193 I_c193 4000 0) (e2_fin rs_c193) e2x_95 (e2_bpL cl_c193_0) (e2_cutA cl_c193_0) 4000 (e2_seek e2x_95 4) al_c193_0 [] E_c193_0 h_c193_0 = true := by decide +kernel
set_option maxRecDepth 1000000 in
theorem ci_c193_0 : e2_idl 2 (al_c193_0.set 3 (9, 0, 0)) = true := by decide +kernel
set_option maxRecDepth 1000000 in
theorem cj_c193_0 : e2_idh 2 8 h_c193_0 = true := by decide +kernel
theorem cs_c193 (hen : en_ok) (l : Launch) : e2_smOk l 1 s_c193 := by
  refine e2_conG (H := 0) (n := 0) (C := evd_95) (S := S_c193) (I := I_c193) (fuel := 4000) hen ei_95 e2_fz e2_fz (by decide) co_c193 fun M d _ hC hcall p e R s m args below meth c Q D cA A ads r0 ha hl0 => ?_
  have L_0 : e2_gdM M p l e R s m args below meth c Q D cA A ads r0 4 al_c193_0 [] E_c193_0 h_c193_0 := by
    refine e2_indL (u := 2) (j := 3) (lo := 2147483648) (hi := 2147483668) (b := 2) (dd := 0) hl0 (by decide) rfl rfl (Or.inr ⟨rfl, rfl⟩) rfl ci_c193_0 cj_c193_0 ?_
    intro r_0 k_0 hk_0 hp_0 hs_0 hn_0
    have hl_0 : r_0.length ≤ 3 := hs_0.len rfl
    have ha_0 := ha.ext hp_0
    exact e2_fromM hen ha_0 hcall (e2_cutA_ok (e2_fa (fun al st E h hc => hn_0 al st E h hc) e2_fz)) (hC []) (X := e2x_95) ex2_95 4 ck_c193_0
  have EN_0 := e2_entL (u := 2) (j := 3) (lo := 2147483648) (hi := 2147483668) hl0 rfl rfl rfl ci_c193_0 cj_c193_0 L_0
  exact e2_from hen ha hcall (e2_cutA_ok (e2_fa (fun al st E h hc => EN_0 al st E h hc) e2_fz)) (hC []) (X := e2x_95) ex2_95 0 ck_c193_e
/-! c194 X4_gainBy -/
def as_c194 : List ev_V := [(2, 59, 0), (11, 0, 4294967295), (11, 2147483648, 2147483651)]
def E_c194 : e2_E := [(2147483648, 2147583648, 0, 0), (2147483652, 2147483668, 1, 0)]
def cn870 : e2_Q6 := (cn858, cn813)
def cn871 : e2_Q7 := (cn414, cn870)
def cn872 : e2_Q8 := (cn855, cn871)
noncomputable def f_c194 : ev_H := (cn872 : e2_Q8)
def cn873 : e2_Q4 := (cn435, cn811)
def cn874 : e2_Q5 := (cn873, cn250)
def cn875 : e2_Q6 := (cn858, cn874)
def cn876 : e2_Q7 := (cn433, cn875)
def cn877 : e2_Q8 := (cn855, cn876)
noncomputable def q_c194_0 : ev_H := (cn877 : e2_Q8)
noncomputable def rs_c194 : e2_Rs := [((11, 0, 4294967295), q_c194_0)]
noncomputable def s_c194 : e2_Sm := (68, as_c194, E_c194, f_c194, rs_c194)
noncomputable def S_c194 : List e2_Sm := [s_c5, s_c6, s_c193]
noncomputable def I_c194 : List e2_In := []
set_option maxRecDepth 1000000 in
theorem ck_c194 : e2_run (e2_cal S_c194 I_c194 4000 0) (e2_fin rs_c194) e2x_68 (fun _ => false) (fun _ _ _ _ _ => false) 4000 (e2_seek e2x_68 0) (e2_al 3 as_c194) [] E_c194 f_c194 = true := by decide +kernel
set_option maxRecDepth 1000000 in
theorem co_c194 : e2_okSB E_c194.length as_c194 f_c194 rs_c194 = true := by decide +kernel
theorem cs_c194 (hen : en_ok) (l : Launch) (hh : e2_hand_c l) : e2_smOk l 61 s_c194 := e2_con0 (H := 60) (n := 0) (C := evd_68) (S := S_c194) (I := I_c194) (fuel := 4000) [] hen ei_68 (e2_fa (hh _ hm_c5) (e2_fa (hh _ hm_c6) (e2_fa ((cs_c193 hen l).mono (by decide)) e2_fz))) e2_fz (by decide) co_c194 ex2_68 ck_c194
/-! c195 X4_gainBy -/
def as_c195 : List ev_V := [(2, 59, 0), (11, 0, 4294967295), (11, 2147483648, 2147483651)]
def E_c195 : e2_E := [(2147483648, 2147583648, 0, 0), (2147483652, 2147483668, 1, 0)]
noncomputable def f_c195 : ev_H := (cn877 : e2_Q8)
noncomputable def q_c195_0 : ev_H := (cn877 : e2_Q8)
noncomputable def rs_c195 : e2_Rs := [((11, 0, 4294967295), q_c195_0)]
noncomputable def s_c195 : e2_Sm := (68, as_c195, E_c195, f_c195, rs_c195)
noncomputable def S_c195 : List e2_Sm := [s_c6, s_c7, s_c193]
noncomputable def I_c195 : List e2_In := []
set_option maxRecDepth 1000000 in
theorem ck_c195 : e2_run (e2_cal S_c195 I_c195 4000 0) (e2_fin rs_c195) e2x_68 (fun _ => false) (fun _ _ _ _ _ => false) 4000 (e2_seek e2x_68 0) (e2_al 3 as_c195) [] E_c195 f_c195 = true := by decide +kernel
set_option maxRecDepth 1000000 in
theorem co_c195 : e2_okSB E_c195.length as_c195 f_c195 rs_c195 = true := by decide +kernel
theorem cs_c195 (hen : en_ok) (l : Launch) (hh : e2_hand_c l) : e2_smOk l 61 s_c195 := e2_con0 (H := 60) (n := 0) (C := evd_68) (S := S_c195) (I := I_c195) (fuel := 4000) [] hen ei_68 (e2_fa (hh _ hm_c6) (e2_fa (hh _ hm_c7) (e2_fa ((cs_c193 hen l).mono (by decide)) e2_fz))) e2_fz (by decide) co_c195 ex2_68 ck_c195
/-! c196 X4_wishForOneReading -/
def as_c196 : List ev_V := [(2, 59, 0)]
def E_c196 : e2_E := [(2147483648, 2147583648, 0, 0), (2147483652, 2147483668, 1, 0)]
def cc185 : ev_C := (54, [(0, 20, 0), (11, 0, 4294967295)])
def cn878 : e2_Q1 := (cc185, cc3)
def cn879 : e2_Q2 := (cn878, cn184)
def cn880 : e2_Q3 := (cn182, cn879)
def cn881 : e2_Q4 := (cn179, cn880)
def cn882 : e2_Q5 := (cn337, cn881)
def cn883 : e2_Q6 := (cn413, cn882)
def cn884 : e2_Q7 := (cn883, cn859)
def cn885 : e2_Q8 := (cn404, cn884)
noncomputable def f_c196 : ev_H := (cn885 : e2_Q8)
def cn886 : e2_Q5 := (cn431, cn881)
def cn887 : e2_Q6 := (cn428, cn886)
def cn888 : e2_Q7 := (cn887, cn862)
def cn889 : e2_Q8 := (cn404, cn888)
noncomputable def q_c196_0 : ev_H := (cn889 : e2_Q8)
noncomputable def rs_c196 : e2_Rs := [((11, 2147483648, 2147483649), q_c196_0)]
noncomputable def s_c196 : e2_Sm := (70, as_c196, E_c196, f_c196, rs_c196)
noncomputable def S_c196 : List e2_Sm := [s_c5, s_c6]
noncomputable def I_c196 : List e2_In := []
set_option maxRecDepth 1000000 in
theorem co_c196 : e2_okSB E_c196.length as_c196 f_c196 rs_c196 = true := by decide +kernel
def al_c196_0 : List ev_V := [(2, 59, 0), (1, 2, 4294967296)]
def E_c196_0 : e2_E := [(2147483648, 2147583648, 0, 0), (2147483652, 2147483668, 1, 0), (2147483648, 2147483668, 2, 0)]
noncomputable def h_c196_0 : ev_H := (cn889 : e2_Q8)
noncomputable def cl_c196_e : List (Nat × e2_S) := [(44, e2_cutL (al_c196_0.set 1 (11, 2147483648, 2147483668)) 2 (E_c196_0.take 2) h_c196_0)]
set_option maxRecDepth 1000000 in
theorem ck_c196_e : e2_run (e2_cal S_c196 I_c196 4000 0) (e2_fin rs_c196) e2x_70 (e2_bpL cl_c196_e) (e2_cutA cl_c196_e) 4000 (e2_seek e2x_70 0) (e2_al 2 as_c196) [] E_c196 f_c196 = true := by decide +kernel
noncomputable def cl_c196_0 : List (Nat × e2_S) := [(44, e2_cutL (al_c196_0.set 1 (13, 10, 2147483668)) 2 (E_c196_0.take 2) h_c196_0)]
set_option maxRecDepth 1000000 in
theorem ck_c196_0 : e2_runM (e2_cal S_c196 I_c196 4000 0) (e2_fin rs_c196) e2x_70 (e2_bpL cl_c196_0) (e2_cutA cl_c196_0) 4000 (e2_seek e2x_70 44) al_c196_0 [] E_c196_0 h_c196_0 = true := by decide +kernel
set_option maxRecDepth 1000000 in
theorem ci_c196_0 : e2_idl 2 (al_c196_0.set 1 (9, 0, 0)) = true := by decide +kernel
set_option maxRecDepth 1000000 in
theorem cj_c196_0 : e2_idh 2 8 h_c196_0 = true := by decide +kernel
theorem cs_c196 (hen : en_ok) (l : Launch) (hh : e2_hand_c l) : e2_smOk l 61 s_c196 := by
  refine e2_conG (H := 60) (n := 0) (C := evd_70) (S := S_c196) (I := I_c196) (fuel := 4000) hen ei_70 (e2_fa (hh _ hm_c5) (e2_fa (hh _ hm_c6) e2_fz)) e2_fz (by decide) co_c196 fun M d _ hC hcall p e R s m args below meth c Q D cA A ads r0 ha hl0 => ?_
  have L_0 : e2_gdM M p l e R s m args below meth c Q D cA A ads r0 44 al_c196_0 [] E_c196_0 h_c196_0 := by
    refine e2_indL (u := 2) (j := 1) (lo := 2147483648) (hi := 2147483668) (b := 2) (dd := 0) hl0 (by decide) rfl rfl (Or.inr ⟨rfl, rfl⟩) rfl ci_c196_0 cj_c196_0 ?_
    intro r_0 k_0 hk_0 hp_0 hs_0 hn_0
    have hl_0 : r_0.length ≤ 3 := hs_0.len rfl
    have ha_0 := ha.ext hp_0
    exact e2_fromM hen ha_0 hcall (e2_cutA_ok (e2_fa (fun al st E h hc => hn_0 al st E h hc) e2_fz)) (hC []) (X := e2x_70) ex2_70 44 ck_c196_0
  have EN_0 := e2_entL (u := 2) (j := 1) (lo := 2147483648) (hi := 2147483668) hl0 rfl rfl rfl ci_c196_0 cj_c196_0 L_0
  exact e2_from hen ha hcall (e2_cutA_ok (e2_fa (fun al st E h hc => EN_0 al st E h hc) e2_fz)) (hC []) (X := e2x_70) ex2_70 0 ck_c196_e
/-! c197 X4_hasWantedSigns -/
def as_c197 : List ev_V := [(2, 59, 0)]
def E_c197 : e2_E := [(2147483648, 2147583648, 0, 0), (2147483652, 2147483668, 1, 0)]
def cn890 : e2_Q6 := (cn30, cn845)
def cn891 : e2_Q7 := (cn890, cn457)
def cn892 : e2_Q4 := (cn426, cn140)
def cn893 : e2_Q5 := (cn892, cn156)
def cn894 : e2_Q5 := (cn172, cn881)
def cn895 : e2_Q6 := (cn893, cn894)
def cn896 : e2_Q4 := (cn211, cn856)
def cn897 : e2_Q5 := (cn273, cn896)
def cn898 : e2_Q6 := (cn897, cn251)
def cn899 : e2_Q7 := (cn895, cn898)
def cn900 : e2_Q8 := (cn891, cn899)
noncomputable def f_c197 : ev_H := (cn900 : e2_Q8)
noncomputable def q_c197_0 : ev_H := (cn900 : e2_Q8)
noncomputable def rs_c197 : e2_Rs := [((11, 2147483648, 2147483649), q_c197_0)]
noncomputable def s_c197 : e2_Sm := (74, as_c197, E_c197, f_c197, rs_c197)
noncomputable def S_c197 : List e2_Sm := []
noncomputable def I_c197 : List e2_In := []
set_option maxRecDepth 1000000 in
theorem co_c197 : e2_okSB E_c197.length as_c197 f_c197 rs_c197 = true := by decide +kernel
def al_c197_0 : List ev_V := [(2, 59, 0), (1, 2, 4294967296)]
def E_c197_0 : e2_E := [(2147483648, 2147583648, 0, 0), (2147483652, 2147483668, 1, 0), (2147483648, 2147483668, 2, 0)]
noncomputable def h_c197_0 : ev_H := (cn900 : e2_Q8)
noncomputable def cl_c197_e : List (Nat × e2_S) := [(18, e2_cutL (al_c197_0.set 1 (11, 2147483648, 2147483668)) 2 (E_c197_0.take 2) h_c197_0)]
set_option maxRecDepth 1000000 in
theorem ck_c197_e : e2_run (e2_cal S_c197 I_c197 4000 0) (e2_fin rs_c197) e2x_74 (e2_bpL cl_c197_e) (e2_cutA cl_c197_e) 4000 (e2_seek e2x_74 0) (e2_al 2 as_c197) [] E_c197 f_c197 = true := by decide +kernel
noncomputable def cl_c197_0 : List (Nat × e2_S) := [(18, e2_cutL (al_c197_0.set 1 (13, 10, 2147483668)) 2 (E_c197_0.take 2) h_c197_0)]
set_option maxRecDepth 1000000 in
theorem ck_c197_0 : e2_runM (e2_cal S_c197 I_c197 4000 0) (e2_fin rs_c197) e2x_74 (e2_bpL cl_c197_0) (e2_cutA cl_c197_0) 4000 (e2_seek e2x_74 18) al_c197_0 [] E_c197_0 h_c197_0 = true := by decide +kernel
set_option maxRecDepth 1000000 in
theorem ci_c197_0 : e2_idl 2 (al_c197_0.set 1 (9, 0, 0)) = true := by decide +kernel
set_option maxRecDepth 1000000 in
theorem cj_c197_0 : e2_idh 2 8 h_c197_0 = true := by decide +kernel
theorem cs_c197 (hen : en_ok) (l : Launch) : e2_smOk l 1 s_c197 := by
  refine e2_conG (H := 0) (n := 0) (C := evd_74) (S := S_c197) (I := I_c197) (fuel := 4000) hen ei_74 e2_fz e2_fz (by decide) co_c197 fun M d _ hC hcall p e R s m args below meth c Q D cA A ads r0 ha hl0 => ?_
  have L_0 : e2_gdM M p l e R s m args below meth c Q D cA A ads r0 18 al_c197_0 [] E_c197_0 h_c197_0 := by
    refine e2_indL (u := 2) (j := 1) (lo := 2147483648) (hi := 2147483668) (b := 2) (dd := 0) hl0 (by decide) rfl rfl (Or.inr ⟨rfl, rfl⟩) rfl ci_c197_0 cj_c197_0 ?_
    intro r_0 k_0 hk_0 hp_0 hs_0 hn_0
    have hl_0 : r_0.length ≤ 3 := hs_0.len rfl
    have ha_0 := ha.ext hp_0
    exact e2_fromM hen ha_0 hcall (e2_cutA_ok (e2_fa (fun al st E h hc => hn_0 al st E h hc) e2_fz)) (hC []) (X := e2x_74) ex2_74 18 ck_c197_0
  have EN_0 := e2_entL (u := 2) (j := 1) (lo := 2147483648) (hi := 2147483668) hl0 rfl rfl rfl ci_c197_0 cj_c197_0 L_0
  exact e2_from hen ha hcall (e2_cutA_ok (e2_fa (fun al st E h hc => EN_0 al st E h hc) e2_fz)) (hC []) (X := e2x_74) ex2_74 0 ck_c197_e
/-! c198 X4_meetsGoal -/
def as_c198 : List ev_V := [(2, 59, 0), (11, 0, 4294967295)]
def E_c198 : e2_E := [(2147483648, 2147583648, 0, 0), (2147483652, 2147483668, 1, 0)]
def cn901 : e2_Q7 := (cn883, cn870)
def cn902 : e2_Q8 := (cn855, cn901)
noncomputable def f_c198 : ev_H := (cn902 : e2_Q8)
def cn903 : e2_Q7 := (cn887, cn875)
def cn904 : e2_Q8 := (cn855, cn903)
noncomputable def q_c198_0 : ev_H := (cn904 : e2_Q8)
noncomputable def rs_c198 : e2_Rs := [((11, 2147483648, 2147483649), q_c198_0)]
noncomputable def s_c198 : e2_Sm := (73, as_c198, E_c198, f_c198, rs_c198)
noncomputable def S_c198 : List e2_Sm := [s_c5, s_c6, s_c193, s_c197]
noncomputable def I_c198 : List e2_In := []
set_option maxRecDepth 1000000 in
theorem ck_c198 : e2_run (e2_cal S_c198 I_c198 4000 0) (e2_fin rs_c198) e2x_73 (fun _ => false) (fun _ _ _ _ _ => false) 4000 (e2_seek e2x_73 0) (e2_al 3 as_c198) [] E_c198 f_c198 = true := by decide +kernel
set_option maxRecDepth 1000000 in
theorem co_c198 : e2_okSB E_c198.length as_c198 f_c198 rs_c198 = true := by decide +kernel
theorem cs_c198 (hen : en_ok) (l : Launch) (hh : e2_hand_c l) : e2_smOk l 61 s_c198 := e2_con0 (H := 60) (n := 0) (C := evd_73) (S := S_c198) (I := I_c198) (fuel := 4000) [] hen ei_73 (e2_fa (hh _ hm_c5) (e2_fa (hh _ hm_c6) (e2_fa ((cs_c193 hen l).mono (by decide)) (e2_fa ((cs_c197 hen l).mono (by decide)) e2_fz)))) e2_fz (by decide) co_c198 ex2_73 ck_c198
/-! c199 X4_changeFrom -/
def as_c199 : List ev_V := [(2, 59, 0), (0, 0, 0), (0, 0, 0), (11, 0, 4294967295)]
def E_c199 : e2_E := [(2147483648, 2147583648, 0, 0), (2147483652, 2147483668, 1, 0)]
noncomputable def f_c199 : ev_H := (cn902 : e2_Q8)
noncomputable def q_c199_0 : ev_H := (cn904 : e2_Q8)
noncomputable def rs_c199 : e2_Rs := [((11, 2147483648, 2147483649), q_c199_0)]
noncomputable def s_c199 : e2_Sm := (72, as_c199, E_c199, f_c199, rs_c199)
noncomputable def S_c199 : List e2_Sm := [s_c198]
noncomputable def I_c199 : List e2_In := []
set_option maxRecDepth 1000000 in
theorem ck_c199 : e2_run (e2_cal S_c199 I_c199 4000 0) (e2_fin rs_c199) e2x_72 (fun _ => false) (fun _ _ _ _ _ => false) 4000 (e2_seek e2x_72 0) (e2_al 6 as_c199) [] E_c199 f_c199 = true := by decide +kernel
set_option maxRecDepth 1000000 in
theorem co_c199 : e2_okSB E_c199.length as_c199 f_c199 rs_c199 = true := by decide +kernel
theorem cs_c199 (hen : en_ok) (l : Launch) (hh : e2_hand_c l) : e2_smOk l 62 s_c199 := e2_con0 (H := 61) (n := 0) (C := evd_72) (S := S_c199) (I := I_c199) (fuel := 4000) [] hen ei_72 (e2_fa (cs_c198 hen l hh) e2_fz) e2_fz (by decide) co_c199 ex2_72 ck_c199
/-! c200 X4_meetsGoal -/
def as_c200 : List ev_V := [(2, 59, 0), (11, 0, 4294967295)]
def E_c200 : e2_E := [(2147483648, 2147583648, 0, 0), (2147483652, 2147483668, 1, 0)]
noncomputable def f_c200 : ev_H := (cn904 : e2_Q8)
noncomputable def q_c200_0 : ev_H := (cn904 : e2_Q8)
noncomputable def rs_c200 : e2_Rs := [((11, 2147483648, 2147483649), q_c200_0)]
noncomputable def s_c200 : e2_Sm := (73, as_c200, E_c200, f_c200, rs_c200)
noncomputable def S_c200 : List e2_Sm := [s_c6, s_c7, s_c193, s_c197]
noncomputable def I_c200 : List e2_In := []
set_option maxRecDepth 1000000 in
theorem ck_c200 : e2_run (e2_cal S_c200 I_c200 4000 0) (e2_fin rs_c200) e2x_73 (fun _ => false) (fun _ _ _ _ _ => false) 4000 (e2_seek e2x_73 0) (e2_al 3 as_c200) [] E_c200 f_c200 = true := by decide +kernel
set_option maxRecDepth 1000000 in
theorem co_c200 : e2_okSB E_c200.length as_c200 f_c200 rs_c200 = true := by decide +kernel
theorem cs_c200 (hen : en_ok) (l : Launch) (hh : e2_hand_c l) : e2_smOk l 61 s_c200 := e2_con0 (H := 60) (n := 0) (C := evd_73) (S := S_c200) (I := I_c200) (fuel := 4000) [] hen ei_73 (e2_fa (hh _ hm_c6) (e2_fa (hh _ hm_c7) (e2_fa ((cs_c193 hen l).mono (by decide)) (e2_fa ((cs_c197 hen l).mono (by decide)) e2_fz)))) e2_fz (by decide) co_c200 ex2_73 ck_c200
/-! c201 X4_changeFrom -/
def as_c201 : List ev_V := [(2, 59, 0), (11, 2147483648, 2147483668), (0, 0, 0), (11, 0, 4294967295)]
def E_c201 : e2_E := [(2147483648, 2147583648, 0, 0), (2147483652, 2147483668, 1, 0)]
noncomputable def f_c201 : ev_H := (cn904 : e2_Q8)
noncomputable def q_c201_0 : ev_H := (cn904 : e2_Q8)
noncomputable def rs_c201 : e2_Rs := [((11, 2147483648, 2147483649), q_c201_0)]
noncomputable def s_c201 : e2_Sm := (72, as_c201, E_c201, f_c201, rs_c201)
noncomputable def S_c201 : List e2_Sm := [s_c200]
noncomputable def I_c201 : List e2_In := []
set_option maxRecDepth 1000000 in
theorem ck_c201 : e2_run (e2_cal S_c201 I_c201 4000 0) (e2_fin rs_c201) e2x_72 (fun _ => false) (fun _ _ _ _ _ => false) 4000 (e2_seek e2x_72 0) (e2_al 6 as_c201) [] E_c201 f_c201 = true := by decide +kernel
set_option maxRecDepth 1000000 in
theorem co_c201 : e2_okSB E_c201.length as_c201 f_c201 rs_c201 = true := by decide +kernel
theorem cs_c201 (hen : en_ok) (l : Launch) (hh : e2_hand_c l) : e2_smOk l 62 s_c201 := e2_con0 (H := 61) (n := 0) (C := evd_72) (S := S_c201) (I := I_c201) (fuel := 4000) [] hen ei_72 (e2_fa (cs_c200 hen l hh) e2_fz) e2_fz (by decide) co_c201 ex2_72 ck_c201
/-! c202 X4_changeFrom -/
def as_c202 : List ev_V := [(2, 59, 0), (11, 2147483648, 2147483667), (0, 1, 0), (11, 0, 4294967295)]
def E_c202 : e2_E := [(2147483648, 2147583648, 0, 0), (2147483652, 2147483668, 1, 0)]
def cn905 : e2_Q2 := (cn878, cn57)
def cn906 : e2_Q3 := (cn55, cn905)
def cn907 : e2_Q4 := (cn384, cn906)
def cn908 : e2_Q5 := (cn382, cn907)
def cn909 : e2_Q6 := (cn853, cn908)
def cn910 : e2_Q7 := (cn909, cn403)
def cn911 : e2_Q8 := (cn910, cn903)
noncomputable def f_c202 : ev_H := (cn911 : e2_Q8)
noncomputable def q_c202_0 : ev_H := (cn911 : e2_Q8)
noncomputable def rs_c202 : e2_Rs := [((11, 2147483648, 2147483649), q_c202_0)]
noncomputable def s_c202 : e2_Sm := (72, as_c202, E_c202, f_c202, rs_c202)
noncomputable def S_c202 : List e2_Sm := [s_c201]
noncomputable def I_c202 : List e2_In := [(64, 2, e2x_64), (159, 2, e2x_159)]
set_option maxRecDepth 1000000 in
theorem co_c202 : e2_okSB E_c202.length as_c202 f_c202 rs_c202 = true := by decide +kernel
def al_c202_0 : List ev_V := [(2, 59, 0), (11, 2147483648, 2147483667), (0, 1, 0), (11, 0, 4294967295), (1, 2, 4294967296), (9, 0, 0)]
def E_c202_0 : e2_E := [(2147483648, 2147583648, 0, 0), (2147483652, 2147483668, 1, 0), (2147483648, 2147483668, 2, 0)]
noncomputable def h_c202_0 : ev_H := (cn911 : e2_Q8)
noncomputable def cl_c202_e : List (Nat × e2_S) := [(13, e2_cutL (al_c202_0.set 4 (11, 2147483648, 2147483668)) 2 (E_c202_0.take 2) h_c202_0)]
set_option maxRecDepth 1000000 in
theorem ck_c202_e : e2_run (e2_cal S_c202 I_c202 4000 1) (e2_fin rs_c202) e2x_72 (e2_bpL cl_c202_e) (e2_cutA cl_c202_e) 4000 (e2_seek e2x_72 0) (e2_al 6 as_c202) [] E_c202 f_c202 = true := by decide +kernel
noncomputable def cl_c202_0 : List (Nat × e2_S) := [(13, e2_cutL (al_c202_0.set 4 (13, 10, 2147483668)) 2 (E_c202_0.take 2) h_c202_0)]
set_option maxRecDepth 1000000 in
theorem ck_c202_0 : e2_runM (e2_cal S_c202 I_c202 4000 1) (e2_fin rs_c202) e2x_72 (e2_bpL cl_c202_0) (e2_cutA cl_c202_0) 4000 (e2_seek e2x_72 13) al_c202_0 [] E_c202_0 h_c202_0 = true := by decide +kernel
set_option maxRecDepth 1000000 in
theorem ci_c202_0 : e2_idl 2 (al_c202_0.set 4 (9, 0, 0)) = true := by decide +kernel
set_option maxRecDepth 1000000 in
theorem cj_c202_0 : e2_idh 2 8 h_c202_0 = true := by decide +kernel
theorem cs_c202 (hen : en_ok) (l : Launch) (hh : e2_hand_c l) : e2_smOk l 64 s_c202 := by
  refine e2_conG (H := 62) (n := 1) (C := evd_72) (S := S_c202) (I := I_c202) (fuel := 4000) hen ei_72 (e2_fa (cs_c201 hen l hh) e2_fz) (e2_fa ein_64 (e2_fa ein_159 e2_fz)) (by decide) co_c202 fun M d _ hC hcall p e R s m args below meth c Q D cA A ads r0 ha hl0 => ?_
  have L_0 : e2_gdM M p l e R s m args below meth c Q D cA A ads r0 13 al_c202_0 [] E_c202_0 h_c202_0 := by
    refine e2_indL (u := 2) (j := 4) (lo := 2147483648) (hi := 2147483668) (b := 2) (dd := 0) hl0 (by decide) rfl rfl (Or.inr ⟨rfl, rfl⟩) rfl ci_c202_0 cj_c202_0 ?_
    intro r_0 k_0 hk_0 hp_0 hs_0 hn_0
    have hl_0 : r_0.length ≤ 3 := hs_0.len rfl
    have ha_0 := ha.ext hp_0
    exact e2_fromM hen ha_0 hcall (e2_cutA_ok (e2_fa (fun al st E h hc => hn_0 al st E h hc) e2_fz)) (hC []) (X := e2x_72) ex2_72 13 ck_c202_0
  have EN_0 := e2_entL (u := 2) (j := 4) (lo := 2147483648) (hi := 2147483668) hl0 rfl rfl rfl ci_c202_0 cj_c202_0 L_0
  exact e2_from hen ha hcall (e2_cutA_ok (e2_fa (fun al st E h hc => EN_0 al st E h hc) e2_fz)) (hC []) (X := e2x_72) ex2_72 0 ck_c202_e
/-! c203 X4_changeFrom -/
def as_c203 : List ev_V := [(2, 59, 0), (11, 2147483648, 2147483667), (0, 2, 0), (11, 0, 4294967295)]
def E_c203 : e2_E := [(2147483648, 2147583648, 0, 0), (2147483652, 2147483668, 1, 0)]
noncomputable def f_c203 : ev_H := (cn911 : e2_Q8)
noncomputable def q_c203_0 : ev_H := (cn911 : e2_Q8)
noncomputable def rs_c203 : e2_Rs := [((11, 2147483648, 2147483649), q_c203_0)]
noncomputable def s_c203 : e2_Sm := (72, as_c203, E_c203, f_c203, rs_c203)
noncomputable def S_c203 : List e2_Sm := [s_c202]
noncomputable def I_c203 : List e2_In := [(64, 2, e2x_64), (159, 2, e2x_159)]
set_option maxRecDepth 1000000 in
theorem co_c203 : e2_okSB E_c203.length as_c203 f_c203 rs_c203 = true := by decide +kernel
def al_c203_0 : List ev_V := [(2, 59, 0), (11, 2147483648, 2147483667), (0, 2, 0), (11, 0, 4294967295), (1, 2, 4294967296), (9, 0, 0)]
def E_c203_0 : e2_E := [(2147483648, 2147583648, 0, 0), (2147483652, 2147483668, 1, 0), (2147483648, 2147483667, 2, 0)]
noncomputable def h_c203_0 : ev_H := (cn911 : e2_Q8)
noncomputable def cl_c203_e : List (Nat × e2_S) := [(13, e2_cutL (al_c203_0.set 4 (11, 2147483648, 2147483667)) 2 (E_c203_0.take 2) h_c203_0)]
set_option maxRecDepth 1000000 in
theorem ck_c203_e : e2_run (e2_cal S_c203 I_c203 4000 1) (e2_fin rs_c203) e2x_72 (e2_bpL cl_c203_e) (e2_cutA cl_c203_e) 4000 (e2_seek e2x_72 0) (e2_al 6 as_c203) [] E_c203 f_c203 = true := by decide +kernel
noncomputable def cl_c203_0 : List (Nat × e2_S) := [(13, e2_cutL (al_c203_0.set 4 (13, 10, 2147483667)) 2 (E_c203_0.take 2) h_c203_0)]
set_option maxRecDepth 1000000 in
theorem ck_c203_0 : e2_runM (e2_cal S_c203 I_c203 4000 1) (e2_fin rs_c203) e2x_72 (e2_bpL cl_c203_0) (e2_cutA cl_c203_0) 4000 (e2_seek e2x_72 13) al_c203_0 [] E_c203_0 h_c203_0 = true := by decide +kernel
set_option maxRecDepth 1000000 in
theorem ci_c203_0 : e2_idl 2 (al_c203_0.set 4 (9, 0, 0)) = true := by decide +kernel
set_option maxRecDepth 1000000 in
theorem cj_c203_0 : e2_idh 2 8 h_c203_0 = true := by decide +kernel
theorem cs_c203 (hen : en_ok) (l : Launch) (hh : e2_hand_c l) : e2_smOk l 66 s_c203 := by
  refine e2_conG (H := 64) (n := 1) (C := evd_72) (S := S_c203) (I := I_c203) (fuel := 4000) hen ei_72 (e2_fa (cs_c202 hen l hh) e2_fz) (e2_fa ein_64 (e2_fa ein_159 e2_fz)) (by decide) co_c203 fun M d _ hC hcall p e R s m args below meth c Q D cA A ads r0 ha hl0 => ?_
  have L_0 : e2_gdM M p l e R s m args below meth c Q D cA A ads r0 13 al_c203_0 [] E_c203_0 h_c203_0 := by
    refine e2_indL (u := 2) (j := 4) (lo := 2147483648) (hi := 2147483667) (b := 2) (dd := 0) hl0 (by decide) rfl rfl (Or.inr ⟨rfl, rfl⟩) rfl ci_c203_0 cj_c203_0 ?_
    intro r_0 k_0 hk_0 hp_0 hs_0 hn_0
    have hl_0 : r_0.length ≤ 3 := hs_0.len rfl
    have ha_0 := ha.ext hp_0
    exact e2_fromM hen ha_0 hcall (e2_cutA_ok (e2_fa (fun al st E h hc => hn_0 al st E h hc) e2_fz)) (hC []) (X := e2x_72) ex2_72 13 ck_c203_0
  have EN_0 := e2_entL (u := 2) (j := 4) (lo := 2147483648) (hi := 2147483667) hl0 rfl rfl rfl ci_c203_0 cj_c203_0 L_0
  exact e2_from hen ha hcall (e2_cutA_ok (e2_fa (fun al st E h hc => EN_0 al st E h hc) e2_fz)) (hC []) (X := e2x_72) ex2_72 0 ck_c203_e
/-! c204 X4_changeFrom -/
def as_c204 : List ev_V := [(2, 59, 0), (0, 0, 0), (0, 3, 0), (11, 0, 4294967295)]
def E_c204 : e2_E := [(2147483648, 2147583648, 0, 0), (2147483652, 2147483668, 1, 0)]
noncomputable def f_c204 : ev_H := (cn911 : e2_Q8)
noncomputable def q_c204_0 : ev_H := (cn911 : e2_Q8)
noncomputable def rs_c204 : e2_Rs := [((11, 2147483648, 2147483649), q_c204_0)]
noncomputable def s_c204 : e2_Sm := (72, as_c204, E_c204, f_c204, rs_c204)
noncomputable def S_c204 : List e2_Sm := [s_c203]
noncomputable def I_c204 : List e2_In := [(64, 2, e2x_64), (159, 2, e2x_159)]
set_option maxRecDepth 1000000 in
theorem co_c204 : e2_okSB E_c204.length as_c204 f_c204 rs_c204 = true := by decide +kernel
def al_c204_0 : List ev_V := [(2, 59, 0), (0, 0, 0), (0, 3, 0), (11, 0, 4294967295), (1, 2, 4294967296), (9, 0, 0)]
def E_c204_0 : e2_E := [(2147483648, 2147583648, 0, 0), (2147483652, 2147483668, 1, 0), (2147483648, 2147483666, 2, 0)]
noncomputable def h_c204_0 : ev_H := (cn911 : e2_Q8)
noncomputable def cl_c204_e : List (Nat × e2_S) := [(13, e2_cutL (al_c204_0.set 4 (11, 2147483648, 2147483666)) 2 (E_c204_0.take 2) h_c204_0)]
set_option maxRecDepth 1000000 in
theorem ck_c204_e : e2_run (e2_cal S_c204 I_c204 4000 1) (e2_fin rs_c204) e2x_72 (e2_bpL cl_c204_e) (e2_cutA cl_c204_e) 4000 (e2_seek e2x_72 0) (e2_al 6 as_c204) [] E_c204 f_c204 = true := by decide +kernel
noncomputable def cl_c204_0 : List (Nat × e2_S) := [(13, e2_cutL (al_c204_0.set 4 (13, 10, 2147483666)) 2 (E_c204_0.take 2) h_c204_0)]
set_option maxRecDepth 1000000 in
theorem ck_c204_0 : e2_runM (e2_cal S_c204 I_c204 4000 1) (e2_fin rs_c204) e2x_72 (e2_bpL cl_c204_0) (e2_cutA cl_c204_0) 4000 (e2_seek e2x_72 13) al_c204_0 [] E_c204_0 h_c204_0 = true := by decide +kernel
set_option maxRecDepth 1000000 in
theorem ci_c204_0 : e2_idl 2 (al_c204_0.set 4 (9, 0, 0)) = true := by decide +kernel
set_option maxRecDepth 1000000 in
theorem cj_c204_0 : e2_idh 2 8 h_c204_0 = true := by decide +kernel
theorem cs_c204 (hen : en_ok) (l : Launch) (hh : e2_hand_c l) : e2_smOk l 68 s_c204 := by
  refine e2_conG (H := 66) (n := 1) (C := evd_72) (S := S_c204) (I := I_c204) (fuel := 4000) hen ei_72 (e2_fa (cs_c203 hen l hh) e2_fz) (e2_fa ein_64 (e2_fa ein_159 e2_fz)) (by decide) co_c204 fun M d _ hC hcall p e R s m args below meth c Q D cA A ads r0 ha hl0 => ?_
  have L_0 : e2_gdM M p l e R s m args below meth c Q D cA A ads r0 13 al_c204_0 [] E_c204_0 h_c204_0 := by
    refine e2_indL (u := 2) (j := 4) (lo := 2147483648) (hi := 2147483666) (b := 2) (dd := 0) hl0 (by decide) rfl rfl (Or.inr ⟨rfl, rfl⟩) rfl ci_c204_0 cj_c204_0 ?_
    intro r_0 k_0 hk_0 hp_0 hs_0 hn_0
    have hl_0 : r_0.length ≤ 3 := hs_0.len rfl
    have ha_0 := ha.ext hp_0
    exact e2_fromM hen ha_0 hcall (e2_cutA_ok (e2_fa (fun al st E h hc => hn_0 al st E h hc) e2_fz)) (hC []) (X := e2x_72) ex2_72 13 ck_c204_0
  have EN_0 := e2_entL (u := 2) (j := 4) (lo := 2147483648) (hi := 2147483666) hl0 rfl rfl rfl ci_c204_0 cj_c204_0 L_0
  exact e2_from hen ha hcall (e2_cutA_ok (e2_fa (fun al st E h hc => EN_0 al st E h hc) e2_fz)) (hC []) (X := e2x_72) ex2_72 0 ck_c204_e
/-! c205 X4_fewestChanges -/
def as_c205 : List ev_V := [(2, 59, 0)]
def E_c205 : e2_E := [(2147483648, 2147583648, 0, 0), (2147483652, 2147483668, 1, 0)]
def cn912 : e2_Q8 := (cn910, cn901)
noncomputable def f_c205 : ev_H := (cn912 : e2_Q8)
noncomputable def q_c205_0 : ev_H := (cn911 : e2_Q8)
noncomputable def rs_c205 : e2_Rs := [((11, 2147483647, 2147483651), q_c205_0)]
noncomputable def s_c205 : e2_Sm := (71, as_c205, E_c205, f_c205, rs_c205)
noncomputable def S_c205 : List e2_Sm := [s_c199, s_c202, s_c203, s_c204]
noncomputable def I_c205 : List e2_In := []
set_option maxRecDepth 1000000 in
theorem co_c205 : e2_okSB E_c205.length as_c205 f_c205 rs_c205 = true := by decide +kernel
def al_c205_0 : List ev_V := [(2, 59, 0), (1, 2, 4294967296)]
def E_c205_0 : e2_E := [(2147483648, 2147583648, 0, 0), (2147483652, 2147483668, 1, 0), (2147483649, 2147483652, 2, 0)]
noncomputable def h_c205_0 : ev_H := (cn911 : e2_Q8)
def al_c205_1 : List ev_V := [(2, 59, 0), (1, 2, 4294967296)]
def E_c205_1 : e2_E := [(2147483648, 2147583648, 0, 0), (2147483652, 2147483668, 1, 0), (2147483648, 2147483648, 2, 0)]
noncomputable def h_c205_1 : ev_H := (cn912 : e2_Q8)
noncomputable def cl_c205_e : List (Nat × e2_S) := [(2, e2_cutL (al_c205_1.set 1 (11, 2147483648, 2147483648)) 2 (E_c205_1.take 2) h_c205_1)]
set_option maxRecDepth 1000000 in
theorem ck_c205_e : e2_run (e2_cal S_c205 I_c205 4000 0) (e2_fin rs_c205) e2x_71 (e2_bpL cl_c205_e) (e2_cutA cl_c205_e) 4000 (e2_seek e2x_71 0) (e2_al 2 as_c205) [] E_c205 f_c205 = true := by decide +kernel
noncomputable def cl_c205_0 : List (Nat × e2_S) := [(2, e2_cutL (al_c205_0.set 1 (13, 10, 2147483652)) 2 (E_c205_0.take 2) h_c205_0)]
set_option maxRecDepth 1000000 in
theorem ck_c205_0 : e2_runM (e2_cal S_c205 I_c205 4000 0) (e2_fin rs_c205) e2x_71 (e2_bpL cl_c205_0) (e2_cutA cl_c205_0) 4000 (e2_seek e2x_71 2) al_c205_0 [] E_c205_0 h_c205_0 = true := by decide +kernel
set_option maxRecDepth 1000000 in
theorem ci_c205_0 : e2_idl 2 (al_c205_0.set 1 (9, 0, 0)) = true := by decide +kernel
set_option maxRecDepth 1000000 in
theorem cj_c205_0 : e2_idh 2 8 h_c205_0 = true := by decide +kernel
noncomputable def cl_c205_1 : List (Nat × e2_S) := [(2, e2_cutL (al_c205_0.set 1 (11, 2147483649, 2147483652)) 2 (E_c205_0.take 2) h_c205_0)]
set_option maxRecDepth 1000000 in
theorem ck_c205_1 : e2_runM (e2_cal S_c205 I_c205 4000 0) (e2_fin rs_c205) e2x_71 (e2_bpL cl_c205_1) (e2_cutA cl_c205_1) 4000 (e2_seek e2x_71 2) al_c205_1 [] E_c205_1 h_c205_1 = true := by decide +kernel
set_option maxRecDepth 1000000 in
theorem ci_c205_1 : e2_idl 2 (al_c205_1.set 1 (9, 0, 0)) = true := by decide +kernel
set_option maxRecDepth 1000000 in
theorem cj_c205_1 : e2_idh 2 8 h_c205_1 = true := by decide +kernel
theorem cs_c205 (hen : en_ok) (l : Launch) (hh : e2_hand_c l) : e2_smOk l 69 s_c205 := by
  refine e2_conG (H := 68) (n := 0) (C := evd_71) (S := S_c205) (I := I_c205) (fuel := 4000) hen ei_71 (e2_fa ((cs_c199 hen l hh).mono (by decide)) (e2_fa ((cs_c202 hen l hh).mono (by decide)) (e2_fa ((cs_c203 hen l hh).mono (by decide)) (e2_fa (cs_c204 hen l hh) e2_fz)))) e2_fz (by decide) co_c205 fun M d _ hC hcall p e R s m args below meth c Q D cA A ads r0 ha hl0 => ?_
  have L_0 : e2_gdM M p l e R s m args below meth c Q D cA A ads r0 2 al_c205_0 [] E_c205_0 h_c205_0 := by
    refine e2_indL (u := 2) (j := 1) (lo := 2147483649) (hi := 2147483652) (b := 2) (dd := 0) hl0 (by decide) rfl rfl (Or.inr ⟨rfl, rfl⟩) rfl ci_c205_0 cj_c205_0 ?_
    intro r_0 k_0 hk_0 hp_0 hs_0 hn_0
    have hl_0 : r_0.length ≤ 3 := hs_0.len rfl
    have ha_0 := ha.ext hp_0
    exact e2_fromM hen ha_0 hcall (e2_cutA_ok (e2_fa (fun al st E h hc => hn_0 al st E h hc) e2_fz)) (hC [9]) (X := e2x_71) ex2_71 2 ck_c205_0
  have EN_0 := e2_entL (u := 2) (j := 1) (lo := 2147483649) (hi := 2147483652) hl0 rfl rfl rfl ci_c205_0 cj_c205_0 L_0
  have L_1 : e2_gdM M p l e R s m args below meth c Q D cA A ads r0 2 al_c205_1 [] E_c205_1 h_c205_1 := by
    refine e2_indL (u := 2) (j := 1) (lo := 2147483648) (hi := 2147483648) (b := 2) (dd := 0) hl0 (by decide) rfl rfl (Or.inr ⟨rfl, rfl⟩) rfl ci_c205_1 cj_c205_1 ?_
    intro r_1 k_1 hk_1 hp_1 hs_1 hn_1
    have hl_1 : r_1.length ≤ 3 := hs_1.len rfl
    have ha_1 := ha.ext hp_1
    exact e2_fromM hen ha_1 hcall (e2_cutA_ok (e2_fa (fun al st E h hc => (EN_0 al st E h hc).ext hp_1) e2_fz)) (hC [9]) (X := e2x_71) ex2_71 2 ck_c205_1
  have EN_1 := e2_entL (u := 2) (j := 1) (lo := 2147483648) (hi := 2147483648) hl0 rfl rfl rfl ci_c205_1 cj_c205_1 L_1
  exact e2_from hen ha hcall (e2_cutA_ok (e2_fa (fun al st E h hc => EN_1 al st E h hc) e2_fz)) (hC [9]) (X := e2x_71) ex2_71 0 ck_c205_e
/-! c206 X4_fewestChanges -/
def as_c206 : List ev_V := [(2, 59, 0)]
def E_c206 : e2_E := [(2147483648, 2147583648, 0, 0), (2147483652, 2147483668, 1, 0)]
noncomputable def f_c206 : ev_H := (cn911 : e2_Q8)
noncomputable def q_c206_0 : ev_H := (cn911 : e2_Q8)
noncomputable def rs_c206 : e2_Rs := [((11, 2147483647, 2147483651), q_c206_0)]
noncomputable def s_c206 : e2_Sm := (71, as_c206, E_c206, f_c206, rs_c206)
noncomputable def S_c206 : List e2_Sm := [s_c201, s_c202, s_c203, s_c204]
noncomputable def I_c206 : List e2_In := []
set_option maxRecDepth 1000000 in
theorem co_c206 : e2_okSB E_c206.length as_c206 f_c206 rs_c206 = true := by decide +kernel
def al_c206_0 : List ev_V := [(2, 59, 0), (1, 2, 4294967296)]
def E_c206_0 : e2_E := [(2147483648, 2147583648, 0, 0), (2147483652, 2147483668, 1, 0), (2147483648, 2147483652, 2, 0)]
noncomputable def h_c206_0 : ev_H := (cn911 : e2_Q8)
noncomputable def cl_c206_e : List (Nat × e2_S) := [(2, e2_cutL (al_c206_0.set 1 (11, 2147483648, 2147483652)) 2 (E_c206_0.take 2) h_c206_0)]
set_option maxRecDepth 1000000 in
theorem ck_c206_e : e2_run (e2_cal S_c206 I_c206 4000 0) (e2_fin rs_c206) e2x_71 (e2_bpL cl_c206_e) (e2_cutA cl_c206_e) 4000 (e2_seek e2x_71 0) (e2_al 2 as_c206) [] E_c206 f_c206 = true := by decide +kernel
noncomputable def cl_c206_0 : List (Nat × e2_S) := [(2, e2_cutL (al_c206_0.set 1 (13, 10, 2147483652)) 2 (E_c206_0.take 2) h_c206_0)]
set_option maxRecDepth 1000000 in
theorem ck_c206_0 : e2_runM (e2_cal S_c206 I_c206 4000 0) (e2_fin rs_c206) e2x_71 (e2_bpL cl_c206_0) (e2_cutA cl_c206_0) 4000 (e2_seek e2x_71 2) al_c206_0 [] E_c206_0 h_c206_0 = true := by decide +kernel
set_option maxRecDepth 1000000 in
theorem ci_c206_0 : e2_idl 2 (al_c206_0.set 1 (9, 0, 0)) = true := by decide +kernel
set_option maxRecDepth 1000000 in
theorem cj_c206_0 : e2_idh 2 8 h_c206_0 = true := by decide +kernel
theorem cs_c206 (hen : en_ok) (l : Launch) (hh : e2_hand_c l) : e2_smOk l 69 s_c206 := by
  refine e2_conG (H := 68) (n := 0) (C := evd_71) (S := S_c206) (I := I_c206) (fuel := 4000) hen ei_71 (e2_fa ((cs_c201 hen l hh).mono (by decide)) (e2_fa ((cs_c202 hen l hh).mono (by decide)) (e2_fa ((cs_c203 hen l hh).mono (by decide)) (e2_fa (cs_c204 hen l hh) e2_fz)))) e2_fz (by decide) co_c206 fun M d _ hC hcall p e R s m args below meth c Q D cA A ads r0 ha hl0 => ?_
  have L_0 : e2_gdM M p l e R s m args below meth c Q D cA A ads r0 2 al_c206_0 [] E_c206_0 h_c206_0 := by
    refine e2_indL (u := 2) (j := 1) (lo := 2147483648) (hi := 2147483652) (b := 2) (dd := 0) hl0 (by decide) rfl rfl (Or.inr ⟨rfl, rfl⟩) rfl ci_c206_0 cj_c206_0 ?_
    intro r_0 k_0 hk_0 hp_0 hs_0 hn_0
    have hl_0 : r_0.length ≤ 3 := hs_0.len rfl
    have ha_0 := ha.ext hp_0
    exact e2_fromM hen ha_0 hcall (e2_cutA_ok (e2_fa (fun al st E h hc => hn_0 al st E h hc) e2_fz)) (hC [9]) (X := e2x_71) ex2_71 2 ck_c206_0
  have EN_0 := e2_entL (u := 2) (j := 1) (lo := 2147483648) (hi := 2147483652) hl0 rfl rfl rfl ci_c206_0 cj_c206_0 L_0
  exact e2_from hen ha hcall (e2_cutA_ok (e2_fa (fun al st E h hc => EN_0 al st E h hc) e2_fz)) (hC [9]) (X := e2x_71) ex2_71 0 ck_c206_e
/-! c207 X4_cellsOfPart -/
def as_c207 : List ev_V := [(2, 59, 0), (11, 2147483649, 2147483903), (11, 2147483648, 2147483656)]
def E_c207 : e2_E := [(2147483648, 2147583648, 0, 0), (2147483652, 2147483668, 1, 0)]
def cn913 : e2_Q2 := (cn282, cn120)
def cn914 : e2_Q3 := (cn118, cn913)
def cn915 : e2_Q4 := (cn115, cn914)
def cn916 : e2_Q5 := (cn108, cn915)
def cn917 : e2_Q6 := (cn456, cn916)
def cn918 : e2_Q7 := (cn62, cn917)
def cn919 : e2_Q7 := (cn189, cn898)
def cn920 : e2_Q8 := (cn918, cn919)
noncomputable def f_c207 : ev_H := (cn920 : e2_Q8)
noncomputable def q_c207_0 : ev_H := (cn920 : e2_Q8)
noncomputable def rs_c207 : e2_Rs := [((11, 0, 4294967295), q_c207_0)]
noncomputable def s_c207 : e2_Sm := (77, as_c207, E_c207, f_c207, rs_c207)
noncomputable def S_c207 : List e2_Sm := []
noncomputable def I_c207 : List e2_In := [(159, 2, e2x_159)]
set_option maxRecDepth 1000000 in
theorem co_c207 : e2_okSB E_c207.length as_c207 f_c207 rs_c207 = true := by decide +kernel
def al_c207_0 : List ev_V := [(2, 59, 0), (11, 2147483649, 2147483903), (11, 2147483648, 2147483656), (11, 0, 4294967295), (1, 2, 4294967296)]
def E_c207_0 : e2_E := [(2147483648, 2147583648, 0, 0), (2147483652, 2147483668, 1, 0), (2147483648, 2147483656, 2, 0)]
noncomputable def h_c207_0 : ev_H := (cn920 : e2_Q8)
noncomputable def cl_c207_e : List (Nat × e2_S) := [(5, e2_cutL (al_c207_0.set 4 (11, 2147483648, 2147483656)) 2 (E_c207_0.take 2) h_c207_0)]
set_option maxRecDepth 1000000 in
theorem ck_c207_e : e2_run (e2_cal S_c207 I_c207 4000 1) (e2_fin rs_c207) e2x_77 (e2_bpL cl_c207_e) (e2_cutA cl_c207_e) 4000 (e2_seek e2x_77 0) (e2_al 5 as_c207) [] E_c207 f_c207 = true := by decide +kernel
noncomputable def cl_c207_0 : List (Nat × e2_S) := [(5, e2_cutL (al_c207_0.set 4 (13, 10, 2147483656)) 2 (E_c207_0.take 2) h_c207_0)]
set_option maxRecDepth 1000000 in
theorem ck_c207_0 : e2_runM (e2_cal S_c207 I_c207 4000 1) (e2_fin rs_c207) e2x_77 (e2_bpL cl_c207_0) (e2_cutA cl_c207_0) 4000 (e2_seek e2x_77 5) al_c207_0 [] E_c207_0 h_c207_0 = true := by decide +kernel
set_option maxRecDepth 1000000 in
theorem ci_c207_0 : e2_idl 2 (al_c207_0.set 4 (9, 0, 0)) = true := by decide +kernel
set_option maxRecDepth 1000000 in
theorem cj_c207_0 : e2_idh 2 8 h_c207_0 = true := by decide +kernel
theorem cs_c207 (hen : en_ok) (l : Launch) : e2_smOk l 2 s_c207 := by
  refine e2_conG (H := 0) (n := 1) (C := evd_77) (S := S_c207) (I := I_c207) (fuel := 4000) hen ei_77 e2_fz (e2_fa ein_159 e2_fz) (by decide) co_c207 fun M d _ hC hcall p e R s m args below meth c Q D cA A ads r0 ha hl0 => ?_
  have L_0 : e2_gdM M p l e R s m args below meth c Q D cA A ads r0 5 al_c207_0 [] E_c207_0 h_c207_0 := by
    refine e2_indL (u := 2) (j := 4) (lo := 2147483648) (hi := 2147483656) (b := 2) (dd := 0) hl0 (by decide) rfl rfl (Or.inr ⟨rfl, rfl⟩) rfl ci_c207_0 cj_c207_0 ?_
    intro r_0 k_0 hk_0 hp_0 hs_0 hn_0
    have hl_0 : r_0.length ≤ 3 := hs_0.len rfl
    have ha_0 := ha.ext hp_0
    exact e2_fromM hen ha_0 hcall (e2_cutA_ok (e2_fa (fun al st E h hc => hn_0 al st E h hc) e2_fz)) (hC []) (X := e2x_77) ex2_77 5 ck_c207_0
  have EN_0 := e2_entL (u := 2) (j := 4) (lo := 2147483648) (hi := 2147483656) hl0 rfl rfl rfl ci_c207_0 cj_c207_0 L_0
  exact e2_from hen ha hcall (e2_cutA_ok (e2_fa (fun al st E h hc => EN_0 al st E h hc) e2_fz)) (hC []) (X := e2x_77) ex2_77 0 ck_c207_e
/-! c208 X4_layFirstOrder -/
def as_c208 : List ev_V := [(2, 59, 0), (11, 2147483648, 2147483656)]
def E_c208 : e2_E := [(2147483648, 2147583648, 0, 0), (2147483652, 2147483668, 1, 0)]
def cn921 : e2_Q4 := (cn52, cn906)
def cn922 : e2_Q5 := (cn45, cn921)
def cn923 : e2_Q6 := (cn30, cn922)
def cn924 : e2_Q7 := (cn923, cn917)
def cc186 : ev_C := (54, [(0, 256, 0), (11, 0, 4294967295)])
def cn925 : e2_Q1 := (cc186, cc3)
def cn926 : e2_Q2 := (cn925, cn247)
def cn927 : e2_Q3 := (cn245, cn926)
def cn928 : e2_Q4 := (cn242, cn927)
def cn929 : e2_Q5 := (cn235, cn928)
def cn930 : e2_Q6 := (cn897, cn929)
def cn931 : e2_Q7 := (cn189, cn930)
def cn932 : e2_Q8 := (cn924, cn931)
noncomputable def f_c208 : ev_H := (cn932 : e2_Q8)
noncomputable def q_c208_0 : ev_H := (cn932 : e2_Q8)
noncomputable def rs_c208 : e2_Rs := [((9, 0, 0), q_c208_0)]
noncomputable def s_c208 : e2_Sm := (79, as_c208, E_c208, f_c208, rs_c208)
noncomputable def S_c208 : List e2_Sm := []
noncomputable def I_c208 : List e2_In := [(64, 2, e2x_64), (159, 2, e2x_159)]
set_option maxRecDepth 1000000 in
theorem co_c208 : e2_okSB E_c208.length as_c208 f_c208 rs_c208 = true := by decide +kernel
def al_c208_0 : List ev_V := [(2, 59, 0), (11, 2147483649, 2147483656), (11, 2147483648, 2147483903), (1, 2, 4294967296), (11, 2147483648, 2147483655), (1, 3, 4294967296)]
def E_c208_0 : e2_E := [(2147483648, 2147583648, 0, 0), (2147483652, 2147483668, 1, 0), (2147483648, 2147483655, 2, 0), (2147483647, 2147483655, 3, 0)]
noncomputable def h_c208_0 : ev_H := (cn932 : e2_Q8)
def al_c208_1 : List ev_V := [(2, 59, 0), (11, 2147483648, 2147483656), (11, 2147483648, 2147483903), (1, 2, 4294967296), (9, 0, 0), (9, 0, 0)]
def E_c208_1 : e2_E := [(2147483648, 2147583648, 0, 0), (2147483652, 2147483668, 1, 0), (2147483648, 2147483656, 2, 0)]
noncomputable def h_c208_1 : ev_H := (cn932 : e2_Q8)
noncomputable def cl_c208_e : List (Nat × e2_S) := [(4, e2_cutL (al_c208_1.set 3 (11, 2147483648, 2147483656)) 2 (E_c208_1.take 2) h_c208_1)]
set_option maxRecDepth 1000000 in
theorem ck_c208_e : e2_run (e2_cal S_c208 I_c208 4000 1) (e2_fin rs_c208) e2x_79 (e2_bpL cl_c208_e) (e2_cutA cl_c208_e) 4000 (e2_seek e2x_79 0) (e2_al 6 as_c208) [] E_c208 f_c208 = true := by decide +kernel
noncomputable def cl_c208_0 : List (Nat × e2_S) := [(17, e2_cutL (al_c208_0.set 5 (12, 11, 2147483647)) 3 (E_c208_0.take 3) h_c208_0),
  (4, e2_cutL (al_c208_1.set 3 (13, 10, 2147483656)) 2 (E_c208_1.take 2) h_c208_1)]
set_option maxRecDepth 1000000 in
theorem ck_c208_0 : e2_runM (e2_cal S_c208 I_c208 4000 1) (e2_fin rs_c208) e2x_79 (e2_bpL cl_c208_0) (e2_cutA cl_c208_0) 4000 (e2_seek e2x_79 17) al_c208_0 [] E_c208_0 h_c208_0 = true := by decide +kernel
set_option maxRecDepth 1000000 in
theorem ci_c208_0 : e2_idl 3 (al_c208_0.set 5 (9, 0, 0)) = true := by decide +kernel
set_option maxRecDepth 1000000 in
theorem cj_c208_0 : e2_idh 3 8 h_c208_0 = true := by decide +kernel
noncomputable def cl_c208_1 : List (Nat × e2_S) := [(17, e2_cutL (al_c208_0.set 5 (11, 2147483647, 2147483655)) 3 (E_c208_0.take 3) h_c208_0)]
set_option maxRecDepth 1000000 in
theorem ck_c208_1 : e2_runM (e2_cal S_c208 I_c208 4000 1) (e2_fin rs_c208) e2x_79 (e2_bpL cl_c208_1) (e2_cutA cl_c208_1) 4000 (e2_seek e2x_79 4) al_c208_1 [] E_c208_1 h_c208_1 = true := by decide +kernel
set_option maxRecDepth 1000000 in
theorem ci_c208_1 : e2_idl 2 (al_c208_1.set 3 (9, 0, 0)) = true := by decide +kernel
set_option maxRecDepth 1000000 in
theorem cj_c208_1 : e2_idh 2 8 h_c208_1 = true := by decide +kernel
theorem cs_c208 (hen : en_ok) (l : Launch) : e2_smOk l 2 s_c208 := by
  refine e2_conG (H := 0) (n := 1) (C := evd_79) (S := S_c208) (I := I_c208) (fuel := 4000) hen ei_79 e2_fz (e2_fa ein_64 (e2_fa ein_159 e2_fz)) (by decide) co_c208 fun M d _ hC hcall p e R s m args below meth c Q D cA A ads r0 ha hl0 => ?_
  have L_1 : e2_gdM M p l e R s m args below meth c Q D cA A ads r0 4 al_c208_1 [] E_c208_1 h_c208_1 := by
    refine e2_indL (u := 2) (j := 3) (lo := 2147483648) (hi := 2147483656) (b := 2) (dd := 0) hl0 (by decide) rfl rfl (Or.inr ⟨rfl, rfl⟩) rfl ci_c208_1 cj_c208_1 ?_
    intro r_1 k_1 hk_1 hp_1 hs_1 hn_1
    have hl_1 : r_1.length ≤ 3 := hs_1.len rfl
    have ha_1 := ha.ext hp_1
    have L_0 : e2_gdM M p l e R s m args below meth c Q D cA A ads r_1 17 al_c208_0 [] E_c208_0 h_c208_0 := by
      refine e2_indD (u := 3) (j := 5) (lo := 2147483647) (hi := 2147483655) hl_1 (by decide) rfl rfl rfl ci_c208_0 cj_c208_0 ?_
      intro r_0 k_0 hk_0 hp_0 hs_0 hn_0
      have hl_0 : r_0.length ≤ 4 := hs_0.len rfl
      have ha_0 := ha_1.ext hp_0
      exact e2_fromM hen ha_0 hcall (e2_cutA_ok (e2_fa (fun al st E h hc => hn_0 al st E h hc) (e2_fa (fun al st E h hc => (hn_1 al st E h hc).ext hp_0) e2_fz))) (hC [37, 68]) (X := e2x_79) ex2_79 17 ck_c208_0
    have EN_0 := e2_entL (u := 3) (j := 5) (lo := 2147483647) (hi := 2147483655) hl_1 rfl rfl rfl ci_c208_0 cj_c208_0 L_0
    exact e2_fromM hen ha_1 hcall (e2_cutA_ok (e2_fa (fun al st E h hc => EN_0 al st E h hc) e2_fz)) (hC [37, 68]) (X := e2x_79) ex2_79 4 ck_c208_1
  have EN_1 := e2_entL (u := 2) (j := 3) (lo := 2147483648) (hi := 2147483656) hl0 rfl rfl rfl ci_c208_1 cj_c208_1 L_1
  exact e2_from hen ha hcall (e2_cutA_ok (e2_fa (fun al st E h hc => EN_1 al st E h hc) e2_fz)) (hC [37, 68]) (X := e2x_79) ex2_79 0 ck_c208_e
/-! c209 X4_listMembers -/
def as_c209 : List ev_V := [(2, 59, 0), (11, 0, 4294967295)]
def E_c209 : e2_E := [(2147483648, 2147583648, 0, 0), (2147483652, 2147483668, 1, 0)]
def cn933 : e2_Q5 := (cn323, cn156)
def cn934 : e2_Q6 := (cn933, cn188)
def cn935 : e2_Q7 := (cn934, cn898)
def cn936 : e2_Q8 := (cn918, cn935)
noncomputable def f_c209 : ev_H := (cn936 : e2_Q8)
noncomputable def q_c209_0 : ev_H := (cn936 : e2_Q8)
noncomputable def rs_c209 : e2_Rs := [((11, 2147483648, 2147483656), q_c209_0)]
noncomputable def s_c209 : e2_Sm := (76, as_c209, E_c209, f_c209, rs_c209)
noncomputable def S_c209 : List e2_Sm := []
noncomputable def I_c209 : List e2_In := [(159, 2, e2x_159)]
set_option maxRecDepth 1000000 in
theorem co_c209 : e2_okSB E_c209.length as_c209 f_c209 rs_c209 = true := by decide +kernel
def al_c209_0 : List ev_V := [(2, 59, 0), (11, 0, 4294967295), (11, 2147483648, 2147483656), (1, 2, 4294967296)]
def E_c209_0 : e2_E := [(2147483648, 2147583648, 0, 0), (2147483652, 2147483668, 1, 0), (2147483648, 2147483668, 2, 0)]
noncomputable def h_c209_0 : ev_H := (cn936 : e2_Q8)
noncomputable def cl_c209_e : List (Nat × e2_S) := [(4, e2_cutL (al_c209_0.set 3 (11, 2147483648, 2147483668)) 2 (E_c209_0.take 2) h_c209_0)]
set_option maxRecDepth 1000000 in
theorem ck_c209_e : e2_run (e2_cal S_c209 I_c209 4000 1) (e2_fin rs_c209) e2x_76 (e2_bpL cl_c209_e) (e2_cutA cl_c209_e) 4000 (e2_seek e2x_76 0) (e2_al 4 as_c209) [] E_c209 f_c209 = true := by decide +kernel
noncomputable def cl_c209_0 : List (Nat × e2_S) := [(4, e2_cutL (al_c209_0.set 3 (13, 10, 2147483668)) 2 (E_c209_0.take 2) h_c209_0)]
set_option maxRecDepth 1000000 in
theorem ck_c209_0 : e2_runM (e2_cal S_c209 I_c209 4000 1) (e2_fin rs_c209) e2x_76 (e2_bpL cl_c209_0) (e2_cutA cl_c209_0) 4000 (e2_seek e2x_76 4) al_c209_0 [] E_c209_0 h_c209_0 = true := by decide +kernel
set_option maxRecDepth 1000000 in
theorem ci_c209_0 : e2_idl 2 (al_c209_0.set 3 (9, 0, 0)) = true := by decide +kernel
set_option maxRecDepth 1000000 in
theorem cj_c209_0 : e2_idh 2 8 h_c209_0 = true := by decide +kernel
theorem cs_c209 (hen : en_ok) (l : Launch) : e2_smOk l 2 s_c209 := by
  refine e2_conG (H := 0) (n := 1) (C := evd_76) (S := S_c209) (I := I_c209) (fuel := 4000) hen ei_76 e2_fz (e2_fa ein_159 e2_fz) (by decide) co_c209 fun M d _ hC hcall p e R s m args below meth c Q D cA A ads r0 ha hl0 => ?_
  have L_0 : e2_gdM M p l e R s m args below meth c Q D cA A ads r0 4 al_c209_0 [] E_c209_0 h_c209_0 := by
    refine e2_indL (u := 2) (j := 3) (lo := 2147483648) (hi := 2147483668) (b := 2) (dd := 0) hl0 (by decide) rfl rfl (Or.inr ⟨rfl, rfl⟩) rfl ci_c209_0 cj_c209_0 ?_
    intro r_0 k_0 hk_0 hp_0 hs_0 hn_0
    have hl_0 : r_0.length ≤ 3 := hs_0.len rfl
    have ha_0 := ha.ext hp_0
    exact e2_fromM hen ha_0 hcall (e2_cutA_ok (e2_fa (fun al st E h hc => hn_0 al st E h hc) e2_fz)) (hC []) (X := e2x_76) ex2_76 4 ck_c209_0
  have EN_0 := e2_entL (u := 2) (j := 3) (lo := 2147483648) (hi := 2147483668) hl0 rfl rfl rfl ci_c209_0 cj_c209_0 L_0
  exact e2_from hen ha hcall (e2_cutA_ok (e2_fa (fun al st E h hc => EN_0 al st E h hc) e2_fz)) (hC []) (X := e2x_76) ex2_76 0 ck_c209_e
/-! c210 X4_waysOn -/
def as_c210 : List ev_V := [(2, 59, 0), (11, 2147483648, 2147483903), (11, 2147483648, 2147483656)]
def E_c210 : e2_E := [(2147483648, 2147583648, 0, 0), (2147483652, 2147483668, 1, 0)]
def cn937 : e2_Q8 := (cn478, cn931)
noncomputable def f_c210 : ev_H := (cn937 : e2_Q8)
noncomputable def q_c210_0 : ev_H := (cn937 : e2_Q8)
noncomputable def rs_c210 : e2_Rs := [((11, 0, 4294967295), q_c210_0)]
noncomputable def s_c210 : e2_Sm := (78, as_c210, E_c210, f_c210, rs_c210)
noncomputable def S_c210 : List e2_Sm := []
noncomputable def I_c210 : List e2_In := [(159, 2, e2x_159)]
set_option maxRecDepth 1000000 in
theorem co_c210 : e2_okSB E_c210.length as_c210 f_c210 rs_c210 = true := by decide +kernel
def al_c210_0 : List ev_V := [(2, 59, 0), (11, 2147483648, 2147483903), (11, 2147483648, 2147483656), (11, 0, 4294967295), (1, 2, 4294967296)]
def E_c210_0 : e2_E := [(2147483648, 2147583648, 0, 0), (2147483652, 2147483668, 1, 0), (2147483648, 2147483656, 2, 0)]
noncomputable def h_c210_0 : ev_H := (cn937 : e2_Q8)
noncomputable def cl_c210_e : List (Nat × e2_S) := [(5, e2_cutL (al_c210_0.set 4 (11, 2147483648, 2147483656)) 2 (E_c210_0.take 2) h_c210_0)]
set_option maxRecDepth 1000000 in
theorem ck_c210_e : e2_run (e2_cal S_c210 I_c210 4000 1) (e2_fin rs_c210) e2x_78 (e2_bpL cl_c210_e) (e2_cutA cl_c210_e) 4000 (e2_seek e2x_78 0) (e2_al 5 as_c210) [] E_c210 f_c210 = true := by decide +kernel
noncomputable def cl_c210_0 : List (Nat × e2_S) := [(5, e2_cutL (al_c210_0.set 4 (13, 10, 2147483656)) 2 (E_c210_0.take 2) h_c210_0)]
set_option maxRecDepth 1000000 in
theorem ck_c210_0 : e2_runM (e2_cal S_c210 I_c210 4000 1) (e2_fin rs_c210) e2x_78 (e2_bpL cl_c210_0) (e2_cutA cl_c210_0) 4000 (e2_seek e2x_78 5) al_c210_0 [] E_c210_0 h_c210_0 = true := by decide +kernel
set_option maxRecDepth 1000000 in
theorem ci_c210_0 : e2_idl 2 (al_c210_0.set 4 (9, 0, 0)) = true := by decide +kernel
set_option maxRecDepth 1000000 in
theorem cj_c210_0 : e2_idh 2 8 h_c210_0 = true := by decide +kernel
theorem cs_c210 (hen : en_ok) (l : Launch) : e2_smOk l 2 s_c210 := by
  refine e2_conG (H := 0) (n := 1) (C := evd_78) (S := S_c210) (I := I_c210) (fuel := 4000) hen ei_78 e2_fz (e2_fa ein_159 e2_fz) (by decide) co_c210 fun M d _ hC hcall p e R s m args below meth c Q D cA A ads r0 ha hl0 => ?_
  have L_0 : e2_gdM M p l e R s m args below meth c Q D cA A ads r0 5 al_c210_0 [] E_c210_0 h_c210_0 := by
    refine e2_indL (u := 2) (j := 4) (lo := 2147483648) (hi := 2147483656) (b := 2) (dd := 0) hl0 (by decide) rfl rfl (Or.inr ⟨rfl, rfl⟩) rfl ci_c210_0 cj_c210_0 ?_
    intro r_0 k_0 hk_0 hp_0 hs_0 hn_0
    have hl_0 : r_0.length ≤ 3 := hs_0.len rfl
    have ha_0 := ha.ext hp_0
    exact e2_fromM hen ha_0 hcall (e2_cutA_ok (e2_fa (fun al st E h hc => hn_0 al st E h hc) e2_fz)) (hC [27]) (X := e2x_78) ex2_78 5 ck_c210_0
  have EN_0 := e2_entL (u := 2) (j := 4) (lo := 2147483648) (hi := 2147483656) hl0 rfl rfl rfl ci_c210_0 cj_c210_0 L_0
  exact e2_from hen ha hcall (e2_cutA_ok (e2_fa (fun al st E h hc => EN_0 al st E h hc) e2_fz)) (hC [27]) (X := e2x_78) ex2_78 0 ck_c210_e
/-! c211 X4_countOrders -/
def as_c211 : List ev_V := [(2, 59, 0), (11, 0, 4294967295)]
def E_c211 : e2_E := [(2147483648, 2147583648, 0, 0), (2147483652, 2147483668, 1, 0)]
def cn938 : e2_Q5 := (cn401, cn915)
def cn939 : e2_Q6 := (cn397, cn938)
def cn940 : e2_Q7 := (cn909, cn939)
def cn941 : e2_Q5 := (cn419, cn928)
def cn942 : e2_Q6 := (cn858, cn941)
def cn943 : e2_Q7 := (cn414, cn942)
def cn944 : e2_Q8 := (cn940, cn943)
noncomputable def f_c211 : ev_H := (cn944 : e2_Q8)
def cn945 : e2_Q5 := (cn436, cn928)
def cn946 : e2_Q6 := (cn858, cn945)
def cn947 : e2_Q7 := (cn433, cn946)
def cn948 : e2_Q8 := (cn940, cn947)
noncomputable def q_c211_0 : ev_H := (cn948 : e2_Q8)
noncomputable def q_c211_1 : ev_H := (cn944 : e2_Q8)
noncomputable def rs_c211 : e2_Rs := [((11, 0, 4294967295), q_c211_0), ((11, 0, 4294967295), q_c211_1)]
noncomputable def s_c211 : e2_Sm := (75, as_c211, E_c211, f_c211, rs_c211)
noncomputable def S_c211 : List e2_Sm := [s_c191, s_c192, s_c207, s_c208, s_c209, s_c210]
noncomputable def I_c211 : List e2_In := []
set_option maxRecDepth 1000000 in
theorem co_c211 : e2_okSB E_c211.length as_c211 f_c211 rs_c211 = true := by decide +kernel
def al_c211_0 : List ev_V := [(2, 59, 0), (11, 0, 4294967295), (11, 2147483648, 2147483656), (11, 2147483648, 2147483903), (1, 2, 4294967296)]
def E_c211_0 : e2_E := [(2147483648, 2147583648, 0, 0), (2147483652, 2147483668, 1, 0), (2147483647, 2147483902, 2, 0)]
noncomputable def h_c211_0 : ev_H := (cn948 : e2_Q8)
def al_c211_1 : List ev_V := [(2, 59, 0), (11, 0, 4294967295), (11, 2147483648, 2147483656), (11, 2147483648, 2147483903), (1, 2, 4294967296)]
def E_c211_1 : e2_E := [(2147483648, 2147583648, 0, 0), (2147483652, 2147483668, 1, 0), (2147483647, 2147483903, 2, 0)]
noncomputable def h_c211_1 : ev_H := (cn944 : e2_Q8)
noncomputable def cl_c211_e : List (Nat × e2_S) := [(22, e2_cutL (al_c211_1.set 4 (11, 2147483647, 2147483903)) 2 (E_c211_1.take 2) h_c211_1)]
set_option maxRecDepth 1000000 in
theorem ck_c211_e : e2_run (e2_cal S_c211 I_c211 4000 0) (e2_fin rs_c211) e2x_75 (e2_bpL cl_c211_e) (e2_cutA cl_c211_e) 4000 (e2_seek e2x_75 0) (e2_al 5 as_c211) [] E_c211 f_c211 = true := by decide +kernel
noncomputable def cl_c211_0 : List (Nat × e2_S) := [(22, e2_cutL (al_c211_0.set 4 (12, 10, 2147483647)) 2 (E_c211_0.take 2) h_c211_0)]
set_option maxRecDepth 1000000 in
theorem ck_c211_0 : e2_runM (e2_cal S_c211 I_c211 4000 0) (e2_fin rs_c211) e2x_75 (e2_bpL cl_c211_0) (e2_cutA cl_c211_0) 4000 (e2_seek e2x_75 22) al_c211_0 [] E_c211_0 h_c211_0 = true := by decide +kernel
set_option maxRecDepth 1000000 in
theorem ci_c211_0 : e2_idl 2 (al_c211_0.set 4 (9, 0, 0)) = true := by decide +kernel
set_option maxRecDepth 1000000 in
theorem cj_c211_0 : e2_idh 2 8 h_c211_0 = true := by decide +kernel
noncomputable def cl_c211_1 : List (Nat × e2_S) := [(22, e2_cutL (al_c211_0.set 4 (11, 2147483647, 2147483902)) 2 (E_c211_0.take 2) h_c211_0),
  (22, e2_cutL (al_c211_1.set 4 (12, 10, 2147483647)) 2 (E_c211_1.take 2) h_c211_1)]
set_option maxRecDepth 1000000 in
theorem ck_c211_1 : e2_runM (e2_cal S_c211 I_c211 4000 0) (e2_fin rs_c211) e2x_75 (e2_bpL cl_c211_1) (e2_cutA cl_c211_1) 4000 (e2_seek e2x_75 22) al_c211_1 [] E_c211_1 h_c211_1 = true := by decide +kernel
set_option maxRecDepth 1000000 in
theorem ci_c211_1 : e2_idl 2 (al_c211_1.set 4 (9, 0, 0)) = true := by decide +kernel
set_option maxRecDepth 1000000 in
theorem cj_c211_1 : e2_idh 2 8 h_c211_1 = true := by decide +kernel
theorem cs_c211 (hen : en_ok) (l : Launch) (hh : e2_hand_c l) : e2_smOk l 62 s_c211 := by
  refine e2_conG (H := 61) (n := 0) (C := evd_75) (S := S_c211) (I := I_c211) (fuel := 4000) hen ei_75 (e2_fa (cs_c191 hen l hh) (e2_fa (cs_c192 hen l hh) (e2_fa ((cs_c207 hen l).mono (by decide)) (e2_fa ((cs_c208 hen l).mono (by decide)) (e2_fa ((cs_c209 hen l).mono (by decide)) (e2_fa ((cs_c210 hen l).mono (by decide)) e2_fz)))))) e2_fz (by decide) co_c211 fun M d _ hC hcall p e R s m args below meth c Q D cA A ads r0 ha hl0 => ?_
  have L_0 : e2_gdM M p l e R s m args below meth c Q D cA A ads r0 22 al_c211_0 [] E_c211_0 h_c211_0 := by
    refine e2_indD (u := 2) (j := 4) (lo := 2147483647) (hi := 2147483902) hl0 (by decide) rfl rfl rfl ci_c211_0 cj_c211_0 ?_
    intro r_0 k_0 hk_0 hp_0 hs_0 hn_0
    have hl_0 : r_0.length ≤ 3 := hs_0.len rfl
    have ha_0 := ha.ext hp_0
    exact e2_fromM hen ha_0 hcall (e2_cutA_ok (e2_fa (fun al st E h hc => hn_0 al st E h hc) e2_fz)) (hC [7]) (X := e2x_75) ex2_75 22 ck_c211_0
  have EN_0 := e2_entL (u := 2) (j := 4) (lo := 2147483647) (hi := 2147483902) hl0 rfl rfl rfl ci_c211_0 cj_c211_0 L_0
  have L_1 : e2_gdM M p l e R s m args below meth c Q D cA A ads r0 22 al_c211_1 [] E_c211_1 h_c211_1 := by
    refine e2_indD (u := 2) (j := 4) (lo := 2147483647) (hi := 2147483903) hl0 (by decide) rfl rfl rfl ci_c211_1 cj_c211_1 ?_
    intro r_1 k_1 hk_1 hp_1 hs_1 hn_1
    have hl_1 : r_1.length ≤ 3 := hs_1.len rfl
    have ha_1 := ha.ext hp_1
    exact e2_fromM hen ha_1 hcall (e2_cutA_ok (e2_fa (fun al st E h hc => (EN_0 al st E h hc).ext hp_1) (e2_fa (fun al st E h hc => hn_1 al st E h hc) e2_fz))) (hC [7]) (X := e2x_75) ex2_75 22 ck_c211_1
  have EN_1 := e2_entL (u := 2) (j := 4) (lo := 2147483647) (hi := 2147483903) hl0 rfl rfl rfl ci_c211_1 cj_c211_1 L_1
  exact e2_from hen ha hcall (e2_cutA_ok (e2_fa (fun al st E h hc => EN_1 al st E h hc) e2_fz)) (hC [7]) (X := e2x_75) ex2_75 0 ck_c211_e
