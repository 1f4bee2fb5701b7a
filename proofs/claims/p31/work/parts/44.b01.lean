/-! CONTRACTS b, printed by a program -/
/-! b168 X10_clearBank -/
def as_b168 : List ev_V := [(2, 83, 0)]
def E_b168 : e2_E := [(2147483648, 2147583648, 0, 0), (2147483648, 2147483656, 1, 0)]
def bc174 : ev_C := (52, [(11, 2147483648, 2147483649), (11, 2147483648, 2147483649), (11, 2147483648, 2147483649), (11, 2147483648, 2147483649)])
def bn745 : e2_Q1 := (bc174, bc3)
def bn746 : e2_Q2 := (bn18, bn745)
def bn747 : e2_Q3 := (bn17, bn746)
def bc175 : ev_C := (50, [(1, 1, 4294967296), (11, 2147483648, 2147483656)])
def bn748 : e2_Q1 := (bc175, bc3)
def bn749 : e2_Q2 := (bn22, bn748)
def bn750 : e2_Q3 := (bn749, bn27)
def bn751 : e2_Q4 := (bn747, bn750)
def bn752 : e2_Q5 := (bn14, bn751)
def bn753 : e2_Q2 := (bn34, bn326)
def bn754 : e2_Q3 := (bn33, bn753)
def bn755 : e2_Q4 := (bn754, bn44)
def bn756 : e2_Q4 := (bn333, bn59)
def bn757 : e2_Q5 := (bn755, bn756)
def bn758 : e2_Q6 := (bn752, bn757)
def bc176 : ev_C := (50, [(11, 0, 4294967295), (11, 0, 4294967295)])
def bn759 : e2_Q1 := (bc176, bc3)
def bn760 : e2_Q2 := (bn85, bn759)
def bn761 : e2_Q3 := (bn760, bn90)
def bn762 : e2_Q4 := (bn84, bn761)
def bn763 : e2_Q5 := (bn77, bn762)
def bc177 : ev_C := (50, [(11, 2147483652, 2147483668), (11, 2147483652, 2147483668)])
def bn764 : e2_Q1 := (bc177, bc3)
def bn765 : e2_Q2 := (bn101, bn764)
def bn766 : e2_Q3 := (bn765, bn106)
def bn767 : e2_Q4 := (bn100, bn766)
def bn768 : e2_Q2 := (bn116, bn759)
def bn769 : e2_Q3 := (bn768, bn121)
def bn770 : e2_Q4 := (bn342, bn769)
def bn771 : e2_Q5 := (bn767, bn770)
def bn772 : e2_Q6 := (bn763, bn771)
def bn773 : e2_Q7 := (bn758, bn772)
def bn774 : e2_Q2 := (bn149, bn759)
def bn775 : e2_Q3 := (bn774, bn154)
def bn776 : e2_Q4 := (bn148, bn775)
def bn777 : e2_Q5 := (bn141, bn776)
def bc178 : ev_C := (50, [(11, 2147483648, 2147484647), (11, 2147483648, 2147484647)])
def bn778 : e2_Q1 := (bc178, bc3)
def bn779 : e2_Q2 := (bn179, bn778)
def bn780 : e2_Q3 := (bn779, bn184)
def bn781 : e2_Q4 := (bn354, bn780)
def bn782 : e2_Q5 := (bn734, bn781)
def bn783 : e2_Q6 := (bn777, bn782)
def bc179 : ev_C := (10, [(0, 0, 0), (2, 88, 0), (2, 115, 0), (2, 114, 0), (2, 86, 0), (2, 112, 0), (11, 2147483648, 2147483688), (2, 118, 0), (2, 120, 0), (2, 131, 0), (2, 91, 0), (11, 2147483648, 2147483668), (2, 123, 0), (0, 1, 0), (11, 2147483648, 2147485248), (2, 87, 0), (2, 84, 0), (2, 122, 0), (2, 100, 0), (2, 132, 0), (11, 2147483648, 2147483668), (11, 2147483648, 2147485248), (1, 0, 4294967296), (0, 0, 0), (11, 2147483648, 2147485248), (2, 93, 0), (2, 104, 0), (11, 2147483648, 2147483678), (2, 89, 0), (2, 92, 0), (2, 119, 0), (2, 90, 0), (2, 94, 0), (2, 103, 0), (11, 2147483648, 2147483688), (11, 2147483648, 2147549184), (11, 0, 4294967295), (11, 2147483648, 2147485249), (11, 2147483648, 2147483653), (11, 2147483648, 2147483668), (2, 85, 0), (11, 0, 4294967295), (5, 0, 0), (2, 95, 0), (2, 96, 0), (2, 97, 0), (2, 98, 0), (2, 99, 0), (2, 101, 0), (2, 102, 0), (2, 105, 0), (2, 106, 0), (2, 107, 0), (2, 108, 0), (2, 109, 0), (2, 110, 0), (2, 111, 0), (11, 2147483648, 2147484768), (11, 2147482048, 2147483655), (11, 2147483648, 2147483738), (11, 2147483648, 2147483678), (11, 0, 4294967295), (11, 0, 4294967295), (11, 0, 4294967295), (11, 0, 4294967295), (11, 0, 4294967295), (2, 113, 0), (2, 116, 0), (2, 117, 0), (2, 121, 0), (11, 0, 4294967295), (11, 0, 4294967295), (2, 124, 0), (2, 125, 0), (11, 0, 4294967295), (2, 126, 0), (2, 127, 0), (2, 128, 0), (2, 129, 0), (2, 130, 0)])
def bn784 : e2_Q1 := (bc179, bc3)
def bn785 : e2_Q2 := (bn196, bn784)
def bn786 : e2_Q3 := (bn785, bn201)
def bn787 : e2_Q4 := (bn195, bn786)
def bn788 : e2_Q2 := (bn211, bn759)
def bn789 : e2_Q3 := (bn788, bn216)
def bn790 : e2_Q4 := (bn364, bn789)
def bn791 : e2_Q5 := (bn787, bn790)
def bc180 : ev_C := (52, [(11, 2147483648, 2147483649), (11, 2147483648, 2147483649)])
def bn792 : e2_Q1 := (bc180, bc3)
def bn793 : e2_Q2 := (bn223, bn792)
def bn794 : e2_Q3 := (bn222, bn793)
def bc181 : ev_C := (50, [(11, 2147483648, 2147483652), (11, 2147483648, 2147483652)])
def bn795 : e2_Q1 := (bc181, bc3)
def bn796 : e2_Q2 := (bn227, bn795)
def bn797 : e2_Q3 := (bn796, bn232)
def bn798 : e2_Q4 := (bn794, bn797)
def bn799 : e2_Q5 := (bn798, bn249)
def bn800 : e2_Q6 := (bn791, bn799)
def bn801 : e2_Q7 := (bn783, bn800)
def bn802 : e2_Q8 := (bn773, bn801)
noncomputable def f_b168 : ev_H := (bn802 : e2_Q8)
def bc182 : ev_C := (50, [(1, 1, 4294967296), (0, 0, 0)])
def bn803 : e2_Q1 := (bc182, bc3)
def bn804 : e2_Q2 := (bn22, bn803)
def bn805 : e2_Q3 := (bn804, bn27)
def bn806 : e2_Q4 := (bn747, bn805)
def bn807 : e2_Q5 := (bn14, bn806)
def bn808 : e2_Q6 := (bn807, bn757)
def bn809 : e2_Q7 := (bn808, bn772)
def bc183 : ev_C := (50, [(11, 2147483648, 2147483652), (11, 2147483648, 2147483651)])
def bn810 : e2_Q1 := (bc183, bc3)
def bn811 : e2_Q2 := (bn227, bn810)
def bn812 : e2_Q3 := (bn811, bn232)
def bn813 : e2_Q4 := (bn794, bn812)
def bn814 : e2_Q5 := (bn813, bn249)
def bn815 : e2_Q6 := (bn791, bn814)
def bn816 : e2_Q7 := (bn783, bn815)
def bn817 : e2_Q8 := (bn809, bn816)
noncomputable def q_b168_0 : ev_H := (bn817 : e2_Q8)
noncomputable def rs_b168 : e2_Rs := [((9, 0, 0), q_b168_0)]
noncomputable def s_b168 : e2_Sm := (14, as_b168, E_b168, f_b168, rs_b168)
noncomputable def S_b168 : List e2_Sm := []
noncomputable def I_b168 : List e2_In := []
set_option maxRecDepth 1000000 in
theorem co_b168 : e2_okSB E_b168.length as_b168 f_b168 rs_b168 = true := by decide +kernel
def al_b168_0 : List ev_V := [(2, 83, 0), (1, 2, 4294967296)]
def E_b168_0 : e2_E := [(2147483648, 2147583648, 0, 0), (2147483648, 2147483656, 1, 0), (2147483648, 2147483656, 2, 0)]
noncomputable def h_b168_0 : ev_H := (bn817 : e2_Q8)
noncomputable def cl_b168_e : List (Nat × e2_S) := [(129, e2_cutL (al_b168_0.set 1 (11, 2147483648, 2147483656)) 2 (E_b168_0.take 2) h_b168_0)]
set_option maxRecDepth 1000000 in
theorem ck_b168_e : e2_run (e2_cal S_b168 I_b168 4000 0) (e2_fin rs_b168) e2x_14 (e2_bpL cl_b168_e) (e2_cutA cl_b168_e) 4000 (e2_seek e2x_14 0) (e2_al 2 as_b168) [] E_b168 f_b168 = true := by decide +kernel
noncomputable def cl_b168_0 : List (Nat × e2_S) := [(129, e2_cutL (al_b168_0.set 1 (13, 10, 2147483656)) 2 (E_b168_0.take 2) h_b168_0)]
set_option maxRecDepth 1000000 in
theorem ck_b168_0 : e2_runM (e2_cal S_b168 I_b168 4000 0) (e2_fin rs_b168) e2x_14 (e2_bpL cl_b168_0) (e2_cutA cl_b168_0) 4000 (e2_seek e2x_14 129) al_b168_0 [] E_b168_0 h_b168_0 = true := by decide +kernel
set_option maxRecDepth 1000000 in
theorem ci_b168_0 : e2_idl 2 (al_b168_0.set 1 (9, 0, 0)) = true := by decide +kernel
set_option maxRecDepth 1000000 in
theorem cj_b168_0 : e2_idh 2 8 h_b168_0 = true := by decide +kernel
theorem cs_b168 (hen : en_ok) (l : Launch) : e2_smOk l 1 s_b168 := by
  refine e2_conG (H := 0) (n := 0) (C := evd_14) (S := S_b168) (I := I_b168) (fuel := 4000) hen ei_14 e2_fz e2_fz (by decide) co_b168 fun M d _ hC hcall p e R s m args below meth c Q D cA A ads r0 ha hl0 => ?_
  have L_0 : e2_gdM M p l e R s m args below meth c Q D cA A ads r0 129 al_b168_0 [] E_b168_0 h_b168_0 := by
    refine e2_indL (u := 2) (j := 1) (lo := 2147483648) (hi := 2147483656) (b := 2) (dd := 0) hl0 (by decide) rfl rfl (Or.inr ⟨rfl, rfl⟩) rfl ci_b168_0 cj_b168_0 ?_
    intro r_0 k_0 hk_0 hp_0 hs_0 hn_0
    have hl_0 : r_0.length ≤ 3 := hs_0.len rfl
    have ha_0 := ha.ext hp_0
    exact e2_fromM hen ha_0 hcall (e2_cutA_ok (e2_fa (fun al st E h hc => hn_0 al st E h hc) e2_fz)) (hC []) (X := e2x_14) ex2_14 129 ck_b168_0
  have EN_0 := e2_entL (u := 2) (j := 1) (lo := 2147483648) (hi := 2147483656) hl0 rfl rfl rfl ci_b168_0 cj_b168_0 L_0
  exact e2_from hen ha hcall (e2_cutA_ok (e2_fa (fun al st E h hc => EN_0 al st E h hc) e2_fz)) (hC []) (X := e2x_14) ex2_14 0 ck_b168_e
/-! b169 X10_startAnew -/
def as_b169 : List ev_V := [(2, 83, 0)]
def E_b169 : e2_E := [(2147483648, 2147583648, 0, 0), (2147483648, 2147483656, 1, 0)]
def bc184 : ev_C := (56, [(0, 3, 0), (11, 2147483648, 2147483649)])
def bn818 : e2_Q1 := (bc18, bc184)
def bn819 : e2_Q2 := (bn818, bn32)
def bn820 : e2_Q3 := (bn819, bn36)
def bn821 : e2_Q4 := (bn820, bn44)
def bn822 : e2_Q5 := (bn821, bn337)
def bn823 : e2_Q6 := (bn700, bn822)
def bn824 : e2_Q7 := (bn823, bn345)
def bn825 : e2_Q6 := (bn157, bn782)
def bc185 : ev_C := (10, [(0, 1, 0), (2, 88, 0), (2, 115, 0), (2, 114, 0), (2, 86, 0), (2, 112, 0), (11, 2147483648, 2147483688), (2, 118, 0), (2, 120, 0), (2, 131, 0), (2, 91, 0), (11, 2147483648, 2147483668), (2, 123, 0), (0, 1, 0), (11, 2147483648, 2147485248), (2, 87, 0), (2, 84, 0), (2, 122, 0), (2, 100, 0), (2, 132, 0), (11, 2147483648, 2147483668), (11, 2147483648, 2147485248), (1, 0, 4294967296), (0, 0, 0), (11, 2147483648, 2147485248), (2, 93, 0), (2, 104, 0), (11, 2147483648, 2147483678), (2, 89, 0), (2, 92, 0), (2, 119, 0), (2, 90, 0), (2, 94, 0), (2, 103, 0), (11, 2147483648, 2147483688), (11, 2147483648, 2147549184), (11, 0, 4294967295), (11, 2147483648, 2147485249), (0, 0, 0), (11, 2147483648, 2147483668), (2, 85, 0), (11, 0, 4294967295), (5, 0, 0), (2, 95, 0), (2, 96, 0), (2, 97, 0), (2, 98, 0), (2, 99, 0), (2, 101, 0), (2, 102, 0), (2, 105, 0), (2, 106, 0), (2, 107, 0), (2, 108, 0), (2, 109, 0), (2, 110, 0), (2, 111, 0), (11, 2147483648, 2147484768), (11, 2147482048, 2147483655), (11, 2147483648, 2147483738), (11, 2147483648, 2147483678), (11, 0, 4294967295), (11, 0, 4294967295), (11, 0, 4294967295), (11, 0, 4294967295), (11, 0, 4294967295), (2, 113, 0), (2, 116, 0), (2, 117, 0), (2, 121, 0), (11, 0, 4294967295), (11, 0, 4294967295), (2, 124, 0), (2, 125, 0), (11, 0, 4294967295), (2, 126, 0), (2, 127, 0), (2, 128, 0), (2, 129, 0), (2, 130, 0)])
def bn826 : e2_Q1 := (bc185, bc3)
def bn827 : e2_Q2 := (bn196, bn826)
def bn828 : e2_Q3 := (bn827, bn201)
def bn829 : e2_Q4 := (bn195, bn828)
def bn830 : e2_Q5 := (bn829, bn365)
def bn831 : e2_Q4 := (bn226, bn812)
def bc186 : ev_C := (50, [(11, 0, 4294967295), (11, 0, 4294967295), (11, 0, 4294967295), (11, 0, 4294967295), (11, 0, 4294967295), (11, 0, 4294967295), (11, 0, 4294967295), (11, 0, 4294967295)])
def bn832 : e2_Q1 := (bc186, bc3)
def bn833 : e2_Q2 := (bn242, bn832)
def bn834 : e2_Q3 := (bn833, bn247)
def bn835 : e2_Q4 := (bn241, bn834)
def bn836 : e2_Q5 := (bn831, bn835)
def bn837 : e2_Q6 := (bn830, bn836)
def bn838 : e2_Q7 := (bn825, bn837)
def bn839 : e2_Q8 := (bn824, bn838)
noncomputable def f_b169 : ev_H := (bn839 : e2_Q8)
noncomputable def q_b169_0 : ev_H := (bn839 : e2_Q8)
noncomputable def rs_b169 : e2_Rs := [((9, 0, 0), q_b169_0)]
noncomputable def s_b169 : e2_Sm := (15, as_b169, E_b169, f_b169, rs_b169)
noncomputable def S_b169 : List e2_Sm := []
noncomputable def I_b169 : List e2_In := []
set_option maxRecDepth 1000000 in
theorem co_b169 : e2_okSB E_b169.length as_b169 f_b169 rs_b169 = true := by decide +kernel
def al_b169_0 : List ev_V := [(2, 83, 0), (1, 2, 4294967296)]
def E_b169_0 : e2_E := [(2147483648, 2147583648, 0, 0), (2147483648, 2147483656, 1, 0), (2147483648, 2147483651, 2, 0)]
noncomputable def h_b169_0 : ev_H := (bn839 : e2_Q8)
def al_b169_1 : List ev_V := [(2, 83, 0), (1, 2, 4294967296)]
def E_b169_1 : e2_E := [(2147483648, 2147583648, 0, 0), (2147483648, 2147483656, 1, 0), (2147483648, 2147483668, 2, 0)]
noncomputable def h_b169_1 : ev_H := (bn839 : e2_Q8)
def al_b169_2 : List ev_V := [(2, 83, 0), (1, 2, 4294967296)]
def E_b169_2 : e2_E := [(2147483648, 2147583648, 0, 0), (2147483648, 2147483656, 1, 0), (2147483648, 2147483652, 2, 0)]
noncomputable def h_b169_2 : ev_H := (bn839 : e2_Q8)
noncomputable def cl_b169_e : List (Nat × e2_S) := [(2, e2_cutL (al_b169_1.set 1 (11, 2147483648, 2147483668)) 2 (E_b169_1.take 2) h_b169_1)]
set_option maxRecDepth 1000000 in
theorem ck_b169_e : e2_run (e2_cal S_b169 I_b169 4000 0) (e2_fin rs_b169) e2x_15 (e2_bpL cl_b169_e) (e2_cutA cl_b169_e) 4000 (e2_seek e2x_15 0) (e2_al 2 as_b169) [] E_b169 f_b169 = true := by decide +kernel
noncomputable def cl_b169_0 : List (Nat × e2_S) := [(121, e2_cutL (al_b169_0.set 1 (13, 10, 2147483651)) 2 (E_b169_0.take 2) h_b169_0)]
set_option maxRecDepth 1000000 in
theorem ck_b169_0 : e2_runM (e2_cal S_b169 I_b169 4000 0) (e2_fin rs_b169) e2x_15 (e2_bpL cl_b169_0) (e2_cutA cl_b169_0) 4000 (e2_seek e2x_15 121) al_b169_0 [] E_b169_0 h_b169_0 = true := by decide +kernel
set_option maxRecDepth 1000000 in
theorem ci_b169_0 : e2_idl 2 (al_b169_0.set 1 (9, 0, 0)) = true := by decide +kernel
set_option maxRecDepth 1000000 in
theorem cj_b169_0 : e2_idh 2 8 h_b169_0 = true := by decide +kernel
noncomputable def cl_b169_1 : List (Nat × e2_S) := [(2, e2_cutL (al_b169_1.set 1 (13, 10, 2147483668)) 2 (E_b169_1.take 2) h_b169_1),
  (25, e2_cutL (al_b169_2.set 1 (11, 2147483648, 2147483652)) 2 (E_b169_2.take 2) h_b169_2)]
set_option maxRecDepth 1000000 in
theorem ck_b169_1 : e2_runM (e2_cal S_b169 I_b169 4000 0) (e2_fin rs_b169) e2x_15 (e2_bpL cl_b169_1) (e2_cutA cl_b169_1) 4000 (e2_seek e2x_15 2) al_b169_1 [] E_b169_1 h_b169_1 = true := by decide +kernel
set_option maxRecDepth 1000000 in
theorem ci_b169_1 : e2_idl 2 (al_b169_1.set 1 (9, 0, 0)) = true := by decide +kernel
set_option maxRecDepth 1000000 in
theorem cj_b169_1 : e2_idh 2 8 h_b169_1 = true := by decide +kernel
noncomputable def cl_b169_2 : List (Nat × e2_S) := [(121, e2_cutL (al_b169_0.set 1 (11, 2147483648, 2147483651)) 2 (E_b169_0.take 2) h_b169_0),
  (25, e2_cutL (al_b169_2.set 1 (13, 10, 2147483652)) 2 (E_b169_2.take 2) h_b169_2)]
set_option maxRecDepth 1000000 in
theorem ck_b169_2 : e2_runM (e2_cal S_b169 I_b169 4000 0) (e2_fin rs_b169) e2x_15 (e2_bpL cl_b169_2) (e2_cutA cl_b169_2) 4000 (e2_seek e2x_15 25) al_b169_2 [] E_b169_2 h_b169_2 = true := by decide +kernel
set_option maxRecDepth 1000000 in
theorem ci_b169_2 : e2_idl 2 (al_b169_2.set 1 (9, 0, 0)) = true := by decide +kernel
set_option maxRecDepth 1000000 in
theorem cj_b169_2 : e2_idh 2 8 h_b169_2 = true := by decide +kernel
theorem cs_b169 (hen : en_ok) (l : Launch) : e2_smOk l 1 s_b169 := by
  refine e2_conG (H := 0) (n := 0) (C := evd_15) (S := S_b169) (I := I_b169) (fuel := 4000) hen ei_15 e2_fz e2_fz (by decide) co_b169 fun M d _ hC hcall p e R s m args below meth c Q D cA A ads r0 ha hl0 => ?_
  have L_0 : e2_gdM M p l e R s m args below meth c Q D cA A ads r0 121 al_b169_0 [] E_b169_0 h_b169_0 := by
    refine e2_indL (u := 2) (j := 1) (lo := 2147483648) (hi := 2147483651) (b := 2) (dd := 0) hl0 (by decide) rfl rfl (Or.inr ⟨rfl, rfl⟩) rfl ci_b169_0 cj_b169_0 ?_
    intro r_0 k_0 hk_0 hp_0 hs_0 hn_0
    have hl_0 : r_0.length ≤ 3 := hs_0.len rfl
    have ha_0 := ha.ext hp_0
    exact e2_fromM hen ha_0 hcall (e2_cutA_ok (e2_fa (fun al st E h hc => hn_0 al st E h hc) e2_fz)) (hC []) (X := e2x_15) ex2_15 121 ck_b169_0
  have EN_0 := e2_entL (u := 2) (j := 1) (lo := 2147483648) (hi := 2147483651) hl0 rfl rfl rfl ci_b169_0 cj_b169_0 L_0
  have L_2 : e2_gdM M p l e R s m args below meth c Q D cA A ads r0 25 al_b169_2 [] E_b169_2 h_b169_2 := by
    refine e2_indL (u := 2) (j := 1) (lo := 2147483648) (hi := 2147483652) (b := 2) (dd := 0) hl0 (by decide) rfl rfl (Or.inr ⟨rfl, rfl⟩) rfl ci_b169_2 cj_b169_2 ?_
    intro r_2 k_2 hk_2 hp_2 hs_2 hn_2
    have hl_2 : r_2.length ≤ 3 := hs_2.len rfl
    have ha_2 := ha.ext hp_2
    exact e2_fromM hen ha_2 hcall (e2_cutA_ok (e2_fa (fun al st E h hc => (EN_0 al st E h hc).ext hp_2) (e2_fa (fun al st E h hc => hn_2 al st E h hc) e2_fz))) (hC []) (X := e2x_15) ex2_15 25 ck_b169_2
  have EN_2 := e2_entL (u := 2) (j := 1) (lo := 2147483648) (hi := 2147483652) hl0 rfl rfl rfl ci_b169_2 cj_b169_2 L_2
  have L_1 : e2_gdM M p l e R s m args below meth c Q D cA A ads r0 2 al_b169_1 [] E_b169_1 h_b169_1 := by
    refine e2_indL (u := 2) (j := 1) (lo := 2147483648) (hi := 2147483668) (b := 2) (dd := 0) hl0 (by decide) rfl rfl (Or.inr ⟨rfl, rfl⟩) rfl ci_b169_1 cj_b169_1 ?_
    intro r_1 k_1 hk_1 hp_1 hs_1 hn_1
    have hl_1 : r_1.length ≤ 3 := hs_1.len rfl
    have ha_1 := ha.ext hp_1
    exact e2_fromM hen ha_1 hcall (e2_cutA_ok (e2_fa (fun al st E h hc => hn_1 al st E h hc) (e2_fa (fun al st E h hc => (EN_2 al st E h hc).ext hp_1) e2_fz))) (hC []) (X := e2x_15) ex2_15 2 ck_b169_1
  have EN_1 := e2_entL (u := 2) (j := 1) (lo := 2147483648) (hi := 2147483668) hl0 rfl rfl rfl ci_b169_1 cj_b169_1 L_1
  exact e2_from hen ha hcall (e2_cutA_ok (e2_fa (fun al st E h hc => EN_1 al st E h hc) e2_fz)) (hC []) (X := e2x_15) ex2_15 0 ck_b169_e
/-! b170 X10_startAnew -/
def as_b170 : List ev_V := [(2, 83, 0)]
def E_b170 : e2_E := [(2147483648, 2147583648, 0, 0), (2147483648, 2147483656, 1, 0)]
def bn840 : e2_Q4 := (bn226, bn797)
def bn841 : e2_Q5 := (bn840, bn835)
def bn842 : e2_Q6 := (bn830, bn841)
def bn843 : e2_Q7 := (bn825, bn842)
def bn844 : e2_Q8 := (bn824, bn843)
noncomputable def f_b170 : ev_H := (bn844 : e2_Q8)
noncomputable def q_b170_0 : ev_H := (bn844 : e2_Q8)
noncomputable def rs_b170 : e2_Rs := [((9, 0, 0), q_b170_0)]
noncomputable def s_b170 : e2_Sm := (15, as_b170, E_b170, f_b170, rs_b170)
noncomputable def S_b170 : List e2_Sm := []
noncomputable def I_b170 : List e2_In := []
set_option maxRecDepth 1000000 in
theorem co_b170 : e2_okSB E_b170.length as_b170 f_b170 rs_b170 = true := by decide +kernel
def al_b170_0 : List ev_V := [(2, 83, 0), (1, 2, 4294967296)]
def E_b170_0 : e2_E := [(2147483648, 2147583648, 0, 0), (2147483648, 2147483656, 1, 0), (2147483648, 2147483651, 2, 0)]
noncomputable def h_b170_0 : ev_H := (bn844 : e2_Q8)
def al_b170_1 : List ev_V := [(2, 83, 0), (1, 2, 4294967296)]
def E_b170_1 : e2_E := [(2147483648, 2147583648, 0, 0), (2147483648, 2147483656, 1, 0), (2147483648, 2147483668, 2, 0)]
noncomputable def h_b170_1 : ev_H := (bn844 : e2_Q8)
def al_b170_2 : List ev_V := [(2, 83, 0), (1, 2, 4294967296)]
def E_b170_2 : e2_E := [(2147483648, 2147583648, 0, 0), (2147483648, 2147483656, 1, 0), (2147483648, 2147483652, 2, 0)]
noncomputable def h_b170_2 : ev_H := (bn844 : e2_Q8)
noncomputable def cl_b170_e : List (Nat × e2_S) := [(2, e2_cutL (al_b170_1.set 1 (11, 2147483648, 2147483668)) 2 (E_b170_1.take 2) h_b170_1)]
set_option maxRecDepth 1000000 in
theorem ck_b170_e : e2_run (e2_cal S_b170 I_b170 4000 0) (e2_fin rs_b170) e2x_15 (e2_bpL cl_b170_e) (e2_cutA cl_b170_e) 4000 (e2_seek e2x_15 0) (e2_al 2 as_b170) [] E_b170 f_b170 = true := by decide +kernel
noncomputable def cl_b170_0 : List (Nat × e2_S) := [(121, e2_cutL (al_b170_0.set 1 (13, 10, 2147483651)) 2 (E_b170_0.take 2) h_b170_0)]
set_option maxRecDepth 1000000 in
theorem ck_b170_0 : e2_runM (e2_cal S_b170 I_b170 4000 0) (e2_fin rs_b170) e2x_15 (e2_bpL cl_b170_0) (e2_cutA cl_b170_0) 4000 (e2_seek e2x_15 121) al_b170_0 [] E_b170_0 h_b170_0 = true := by decide +kernel
set_option maxRecDepth 1000000 in
theorem ci_b170_0 : e2_idl 2 (al_b170_0.set 1 (9, 0, 0)) = true := by decide +kernel
set_option maxRecDepth 1000000 in
theorem cj_b170_0 : e2_idh 2 8 h_b170_0 = true := by decide +kernel
noncomputable def cl_b170_1 : List (Nat × e2_S) := [(2, e2_cutL (al_b170_1.set 1 (13, 10, 2147483668)) 2 (E_b170_1.take 2) h_b170_1),
  (25, e2_cutL (al_b170_2.set 1 (11, 2147483648, 2147483652)) 2 (E_b170_2.take 2) h_b170_2)]
set_option maxRecDepth 1000000 in
theorem ck_b170_1 : e2_runM (e2_cal S_b170 I_b170 4000 0) (e2_fin rs_b170) e2x_15 (e2_bpL cl_b170_1) (e2_cutA cl_b170_1) 4000 (e2_seek e2x_15 2) al_b170_1 [] E_b170_1 h_b170_1 = true := by decide +kernel
set_option maxRecDepth 1000000 in
theorem ci_b170_1 : e2_idl 2 (al_b170_1.set 1 (9, 0, 0)) = true := by decide +kernel
set_option maxRecDepth 1000000 in
theorem cj_b170_1 : e2_idh 2 8 h_b170_1 = true := by decide +kernel
noncomputable def cl_b170_2 : List (Nat × e2_S) := [(121, e2_cutL (al_b170_0.set 1 (11, 2147483648, 2147483651)) 2 (E_b170_0.take 2) h_b170_0),
  (25, e2_cutL (al_b170_2.set 1 (13, 10, 2147483652)) 2 (E_b170_2.take 2) h_b170_2)]
set_option maxRecDepth 1000000 in
theorem ck_b170_2 : e2_runM (e2_cal S_b170 I_b170 4000 0) (e2_fin rs_b170) e2x_15 (e2_bpL cl_b170_2) (e2_cutA cl_b170_2) 4000 (e2_seek e2x_15 25) al_b170_2 [] E_b170_2 h_b170_2 = true := by decide +kernel
set_option maxRecDepth 1000000 in
theorem ci_b170_2 : e2_idl 2 (al_b170_2.set 1 (9, 0, 0)) = true := by decide +kernel
set_option maxRecDepth 1000000 in
theorem cj_b170_2 : e2_idh 2 8 h_b170_2 = true := by decide +kernel
theorem cs_b170 (hen : en_ok) (l : Launch) : e2_smOk l 1 s_b170 := by
  refine e2_conG (H := 0) (n := 0) (C := evd_15) (S := S_b170) (I := I_b170) (fuel := 4000) hen ei_15 e2_fz e2_fz (by decide) co_b170 fun M d _ hC hcall p e R s m args below meth c Q D cA A ads r0 ha hl0 => ?_
  have L_0 : e2_gdM M p l e R s m args below meth c Q D cA A ads r0 121 al_b170_0 [] E_b170_0 h_b170_0 := by
    refine e2_indL (u := 2) (j := 1) (lo := 2147483648) (hi := 2147483651) (b := 2) (dd := 0) hl0 (by decide) rfl rfl (Or.inr ⟨rfl, rfl⟩) rfl ci_b170_0 cj_b170_0 ?_
    intro r_0 k_0 hk_0 hp_0 hs_0 hn_0
    have hl_0 : r_0.length ≤ 3 := hs_0.len rfl
    have ha_0 := ha.ext hp_0
    exact e2_fromM hen ha_0 hcall (e2_cutA_ok (e2_fa (fun al st E h hc => hn_0 al st E h hc) e2_fz)) (hC []) (X := e2x_15) ex2_15 121 ck_b170_0
  have EN_0 := e2_entL (u := 2) (j := 1) (lo := 2147483648) (hi := 2147483651) hl0 rfl rfl rfl ci_b170_0 cj_b170_0 L_0
  have L_2 : e2_gdM M p l e R s m args below meth c Q D cA A ads r0 25 al_b170_2 [] E_b170_2 h_b170_2 := by
    refine e2_indL (u := 2) (j := 1) (lo := 2147483648) (hi := 2147483652) (b := 2) (dd := 0) hl0 (by decide) rfl rfl (Or.inr ⟨rfl, rfl⟩) rfl ci_b170_2 cj_b170_2 ?_
    intro r_2 k_2 hk_2 hp_2 hs_2 hn_2
    have hl_2 : r_2.length ≤ 3 := hs_2.len rfl
    have ha_2 := ha.ext hp_2
    exact e2_fromM hen ha_2 hcall (e2_cutA_ok (e2_fa (fun al st E h hc => (EN_0 al st E h hc).ext hp_2) (e2_fa (fun al st E h hc => hn_2 al st E h hc) e2_fz))) (hC []) (X := e2x_15) ex2_15 25 ck_b170_2
  have EN_2 := e2_entL (u := 2) (j := 1) (lo := 2147483648) (hi := 2147483652) hl0 rfl rfl rfl ci_b170_2 cj_b170_2 L_2
  have L_1 : e2_gdM M p l e R s m args below meth c Q D cA A ads r0 2 al_b170_1 [] E_b170_1 h_b170_1 := by
    refine e2_indL (u := 2) (j := 1) (lo := 2147483648) (hi := 2147483668) (b := 2) (dd := 0) hl0 (by decide) rfl rfl (Or.inr ⟨rfl, rfl⟩) rfl ci_b170_1 cj_b170_1 ?_
    intro r_1 k_1 hk_1 hp_1 hs_1 hn_1
    have hl_1 : r_1.length ≤ 3 := hs_1.len rfl
    have ha_1 := ha.ext hp_1
    exact e2_fromM hen ha_1 hcall (e2_cutA_ok (e2_fa (fun al st E h hc => hn_1 al st E h hc) (e2_fa (fun al st E h hc => (EN_2 al st E h hc).ext hp_1) e2_fz))) (hC []) (X := e2x_15) ex2_15 2 ck_b170_1
  have EN_1 := e2_entL (u := 2) (j := 1) (lo := 2147483648) (hi := 2147483668) hl0 rfl rfl rfl ci_b170_1 cj_b170_1 L_1
  exact e2_from hen ha hcall (e2_cutA_ok (e2_fa (fun al st E h hc => EN_1 al st E h hc) e2_fz)) (hC []) (X := e2x_15) ex2_15 0 ck_b170_e
/-! b171 X10_isKept -/
def as_b171 : List ev_V := [(5, 0, 0)]
def E_b171 : e2_E := [(2147483648, 2147583648, 0, 0), (2147483648, 2147483656, 1, 0)]
noncomputable def f_b171 : ev_H := (bn744 : e2_Q8)
noncomputable def q_b171_0 : ev_H := (bn744 : e2_Q8)
noncomputable def rs_b171 : e2_Rs := [((11, 2147483648, 2147483649), q_b171_0)]
noncomputable def s_b171 : e2_Sm := (175, as_b171, E_b171, f_b171, rs_b171)
noncomputable def S_b171 : List e2_Sm := []
noncomputable def I_b171 : List e2_In := []
set_option maxRecDepth 1000000 in
theorem ck_b171 : e2_run (e2_cal S_b171 I_b171 4000 0) (e2_fin rs_b171) e2x_175 (fun _ => false) (fun _ _ _ _ _ => false) 4000 (e2_seek e2x_175 0) (e2_al 3 as_b171) [] E_b171 f_b171 = true := by decide +kernel
set_option maxRecDepth 1000000 in
theorem co_b171 : e2_okSB E_b171.length as_b171 f_b171 rs_b171 = true := by decide +kernel
theorem cs_b171 (hen : en_ok) (l : Launch) : e2_smOk l 1 s_b171 := e2_con0 (H := 0) (n := 0) (C := evd_175) (S := S_b171) (I := I_b171) (fuel := 4000) [] hen ei_175 e2_fz e2_fz (by decide) co_b171 ex2_175 ck_b171
/-! b172 X10_goOn -/
def as_b172 : List ev_V := [(2, 83, 0)]
def E_b172 : e2_E := [(2147483648, 2147583648, 0, 0), (2147483648, 2147483656, 1, 0), (2147483648, 2147485249, 2, 0)]
def bn845 : e2_Q6 := (bn157, bn356)
def bn846 : e2_Q5 := (bn787, bn365)
def bn847 : e2_Q6 := (bn846, bn250)
def bn848 : e2_Q7 := (bn845, bn847)
def bn849 : e2_Q8 := (bn733, bn848)
noncomputable def f_b172 : ev_H := (bn849 : e2_Q8)
def bc187 : ev_C := (10, [(0, 0, 0), (2, 88, 0), (2, 115, 0), (2, 114, 0), (2, 86, 0), (2, 112, 0), (11, 2147483648, 2147483688), (2, 118, 0), (2, 120, 0), (2, 131, 0), (2, 91, 0), (11, 2147483648, 2147483668), (2, 123, 0), (0, 1, 0), (11, 2147483648, 2147485248), (2, 87, 0), (2, 84, 0), (2, 122, 0), (2, 100, 0), (2, 132, 0), (11, 2147483648, 2147483668), (11, 2147483648, 2147485248), (1, 0, 4294967296), (0, 0, 0), (11, 2147483648, 2147485248), (2, 93, 0), (2, 104, 0), (11, 2147483648, 2147483678), (2, 89, 0), (2, 92, 0), (2, 119, 0), (2, 90, 0), (2, 94, 0), (2, 103, 0), (11, 2147483648, 2147483688), (11, 2147483648, 2147549184), (11, 0, 4294967295), (11, 2147483648, 2147485249), (0, 1, 0), (11, 2147483648, 2147483668), (2, 85, 0), (11, 0, 4294967295), (5, 0, 0), (2, 95, 0), (2, 96, 0), (2, 97, 0), (2, 98, 0), (2, 99, 0), (2, 101, 0), (2, 102, 0), (2, 105, 0), (2, 106, 0), (2, 107, 0), (2, 108, 0), (2, 109, 0), (2, 110, 0), (2, 111, 0), (11, 2147483648, 2147484768), (11, 2147482048, 2147483655), (11, 2147483648, 2147483738), (11, 2147483648, 2147483678), (11, 0, 4294967295), (11, 0, 4294967295), (11, 0, 4294967295), (11, 0, 4294967295), (11, 0, 4294967295), (2, 113, 0), (2, 116, 0), (2, 117, 0), (2, 121, 0), (11, 0, 4294967295), (11, 0, 4294967295), (2, 124, 0), (2, 125, 0), (11, 0, 4294967295), (2, 126, 0), (2, 127, 0), (2, 128, 0), (2, 129, 0), (2, 130, 0)])
def bn850 : e2_Q1 := (bc187, bc3)
def bn851 : e2_Q2 := (bn196, bn850)
def bn852 : e2_Q3 := (bn851, bn201)
def bn853 : e2_Q4 := (bn195, bn852)
def bn854 : e2_Q5 := (bn853, bn365)
def bn855 : e2_Q6 := (bn854, bn250)
def bn856 : e2_Q7 := (bn845, bn855)
def bn857 : e2_Q8 := (bn733, bn856)
noncomputable def q_b172_0 : ev_H := (bn857 : e2_Q8)
def bc188 : ev_C := (10, [(0, 0, 0), (2, 88, 0), (2, 115, 0), (2, 114, 0), (2, 86, 0), (2, 112, 0), (11, 2147483648, 2147483688), (2, 118, 0), (2, 120, 0), (2, 131, 0), (2, 91, 0), (11, 2147483648, 2147483668), (2, 123, 0), (0, 1, 0), (11, 2147483648, 2147485248), (2, 87, 0), (2, 84, 0), (2, 122, 0), (2, 100, 0), (2, 132, 0), (11, 2147483648, 2147483668), (11, 2147483648, 2147485248), (1, 0, 4294967296), (0, 0, 0), (11, 2147483648, 2147485248), (2, 93, 0), (2, 104, 0), (11, 2147483648, 2147483678), (2, 89, 0), (2, 92, 0), (2, 119, 0), (2, 90, 0), (2, 94, 0), (2, 103, 0), (11, 2147483648, 2147483688), (11, 2147483648, 2147549184), (11, 0, 4294967295), (11, 2147483648, 2147485249), (11, 2147483650, 2147483651), (11, 2147483648, 2147483668), (2, 85, 0), (11, 0, 4294967295), (5, 0, 0), (2, 95, 0), (2, 96, 0), (2, 97, 0), (2, 98, 0), (2, 99, 0), (2, 101, 0), (2, 102, 0), (2, 105, 0), (2, 106, 0), (2, 107, 0), (2, 108, 0), (2, 109, 0), (2, 110, 0), (2, 111, 0), (11, 2147483648, 2147484768), (11, 2147482048, 2147483655), (11, 2147483648, 2147483738), (11, 2147483648, 2147483678), (11, 0, 4294967295), (11, 0, 4294967295), (11, 0, 4294967295), (11, 0, 4294967295), (11, 0, 4294967295), (2, 113, 0), (2, 116, 0), (2, 117, 0), (2, 121, 0), (11, 0, 4294967295), (11, 0, 4294967295), (2, 124, 0), (2, 125, 0), (11, 0, 4294967295), (2, 126, 0), (2, 127, 0), (2, 128, 0), (2, 129, 0), (2, 130, 0)])
def bn858 : e2_Q1 := (bc188, bc3)
def bn859 : e2_Q2 := (bn196, bn858)
def bn860 : e2_Q3 := (bn859, bn201)
def bn861 : e2_Q4 := (bn195, bn860)
def bn862 : e2_Q5 := (bn861, bn365)
def bn863 : e2_Q6 := (bn862, bn250)
def bn864 : e2_Q7 := (bn845, bn863)
def bn865 : e2_Q8 := (bn733, bn864)
noncomputable def q_b172_1 : ev_H := (bn865 : e2_Q8)
def bc189 : ev_C := (10, [(0, 0, 0), (2, 88, 0), (2, 115, 0), (2, 114, 0), (2, 86, 0), (2, 112, 0), (11, 2147483648, 2147483688), (2, 118, 0), (2, 120, 0), (2, 131, 0), (2, 91, 0), (11, 2147483648, 2147483668), (2, 123, 0), (0, 1, 0), (11, 2147483648, 2147485248), (2, 87, 0), (2, 84, 0), (2, 122, 0), (2, 100, 0), (2, 132, 0), (11, 2147483648, 2147483668), (11, 2147483648, 2147485248), (1, 0, 4294967296), (0, 0, 0), (11, 2147483648, 2147485248), (2, 93, 0), (2, 104, 0), (11, 2147483648, 2147483678), (2, 89, 0), (2, 92, 0), (2, 119, 0), (2, 90, 0), (2, 94, 0), (2, 103, 0), (11, 2147483648, 2147483688), (11, 2147483648, 2147549184), (11, 0, 4294967295), (11, 2147483648, 2147485249), (0, 4, 0), (11, 2147483648, 2147483668), (2, 85, 0), (11, 0, 4294967295), (5, 0, 0), (2, 95, 0), (2, 96, 0), (2, 97, 0), (2, 98, 0), (2, 99, 0), (2, 101, 0), (2, 102, 0), (2, 105, 0), (2, 106, 0), (2, 107, 0), (2, 108, 0), (2, 109, 0), (2, 110, 0), (2, 111, 0), (11, 2147483648, 2147484768), (11, 2147482048, 2147483655), (11, 2147483648, 2147483738), (11, 2147483648, 2147483678), (11, 0, 4294967295), (11, 0, 4294967295), (11, 0, 4294967295), (11, 0, 4294967295), (11, 0, 4294967295), (2, 113, 0), (2, 116, 0), (2, 117, 0), (2, 121, 0), (11, 0, 4294967295), (11, 0, 4294967295), (2, 124, 0), (2, 125, 0), (11, 0, 4294967295), (2, 126, 0), (2, 127, 0), (2, 128, 0), (2, 129, 0), (2, 130, 0)])
def bn866 : e2_Q1 := (bc189, bc3)
def bn867 : e2_Q2 := (bn196, bn866)
def bn868 : e2_Q3 := (bn867, bn201)
def bn869 : e2_Q4 := (bn195, bn868)
def bn870 : e2_Q5 := (bn869, bn365)
def bn871 : e2_Q6 := (bn870, bn250)
def bn872 : e2_Q7 := (bn845, bn871)
def bn873 : e2_Q8 := (bn733, bn872)
noncomputable def q_b172_2 : ev_H := (bn873 : e2_Q8)
def bn874 : e2_Q7 := (bn845, bn447)
def bn875 : e2_Q8 := (bn733, bn874)
noncomputable def q_b172_3 : ev_H := (bn875 : e2_Q8)
def bc190 : ev_C := (10, [(0, 0, 0), (2, 88, 0), (2, 115, 0), (2, 114, 0), (2, 86, 0), (2, 112, 0), (11, 2147483648, 2147483688), (2, 118, 0), (2, 120, 0), (2, 131, 0), (2, 91, 0), (11, 2147483648, 2147483668), (2, 123, 0), (0, 1, 0), (11, 2147483648, 2147485248), (2, 87, 0), (2, 84, 0), (2, 122, 0), (2, 100, 0), (2, 132, 0), (11, 2147483648, 2147483668), (11, 2147483648, 2147485248), (1, 0, 4294967296), (0, 0, 0), (11, 2147483648, 2147485248), (2, 93, 0), (2, 104, 0), (11, 2147483648, 2147483678), (2, 89, 0), (2, 92, 0), (2, 119, 0), (2, 90, 0), (2, 94, 0), (2, 103, 0), (11, 2147483648, 2147483688), (11, 2147483648, 2147549184), (11, 0, 4294967295), (11, 2147483648, 2147485249), (0, 5, 0), (11, 2147483648, 2147483668), (2, 85, 0), (11, 0, 4294967295), (5, 0, 0), (2, 95, 0), (2, 96, 0), (2, 97, 0), (2, 98, 0), (2, 99, 0), (2, 101, 0), (2, 102, 0), (2, 105, 0), (2, 106, 0), (2, 107, 0), (2, 108, 0), (2, 109, 0), (2, 110, 0), (2, 111, 0), (11, 2147483648, 2147484768), (11, 2147482048, 2147483655), (11, 2147483648, 2147483738), (11, 2147483648, 2147483678), (11, 0, 4294967295), (11, 0, 4294967295), (11, 0, 4294967295), (11, 0, 4294967295), (11, 0, 4294967295), (2, 113, 0), (2, 116, 0), (2, 117, 0), (2, 121, 0), (11, 0, 4294967295), (11, 0, 4294967295), (2, 124, 0), (2, 125, 0), (11, 0, 4294967295), (2, 126, 0), (2, 127, 0), (2, 128, 0), (2, 129, 0), (2, 130, 0)])
def bn876 : e2_Q1 := (bc190, bc3)
def bn877 : e2_Q2 := (bn196, bn876)
def bn878 : e2_Q3 := (bn877, bn201)
def bn879 : e2_Q4 := (bn195, bn878)
def bn880 : e2_Q5 := (bn879, bn365)
def bn881 : e2_Q6 := (bn880, bn250)
def bn882 : e2_Q7 := (bn845, bn881)
def bn883 : e2_Q8 := (bn733, bn882)
noncomputable def q_b172_4 : ev_H := (bn883 : e2_Q8)
noncomputable def rs_b172 : e2_Rs := [((9, 0, 0), q_b172_0), ((9, 0, 0), q_b172_1), ((9, 0, 0), q_b172_2), ((9, 0, 0), q_b172_3), ((9, 0, 0), q_b172_4)]
noncomputable def s_b172 : e2_Sm := (177, as_b172, E_b172, f_b172, rs_b172)
noncomputable def S_b172 : List e2_Sm := [s_b171]
noncomputable def I_b172 : List e2_In := [(170, 2, e2x_170), (171, 1, e2x_171), (172, 1, e2x_172), (176, 1, e2x_176)]
set_option maxRecDepth 1000000 in
theorem co_b172 : e2_okSB E_b172.length as_b172 f_b172 rs_b172 = true := by decide +kernel
def al_b172_0 : List ev_V := [(2, 83, 0), (11, 2147483745, 2147483770), (9, 0, 0)]
def E_b172_0 : e2_E := [(2147483648, 2147583648, 0, 0), (2147483648, 2147483656, 1, 0), (2147483648, 2147485249, 2, 0), (2147483649, 2147485248, 3, 0)]
def bc191 : ev_C := (10, [(0, 0, 0), (2, 88, 0), (2, 115, 0), (2, 114, 0), (2, 86, 0), (2, 112, 0), (11, 2147483648, 2147483688), (2, 118, 0), (2, 120, 0), (2, 131, 0), (2, 91, 0), (11, 2147483648, 2147483668), (2, 123, 0), (0, 1, 0), (11, 2147483648, 2147485248), (2, 87, 0), (2, 84, 0), (2, 122, 0), (2, 100, 0), (2, 132, 0), (11, 2147483648, 2147483668), (11, 2147483648, 2147485248), (1, 0, 4294967296), (0, 0, 0), (11, 2147483648, 2147485248), (2, 93, 0), (2, 104, 0), (11, 2147483648, 2147483678), (2, 89, 0), (2, 92, 0), (2, 119, 0), (2, 90, 0), (2, 94, 0), (2, 103, 0), (11, 2147483648, 2147483688), (11, 2147483648, 2147549184), (11, 0, 4294967295), (1, 3, 4294967296), (11, 2147483648, 2147483653), (11, 2147483648, 2147483668), (2, 85, 0), (11, 0, 4294967295), (5, 0, 0), (2, 95, 0), (2, 96, 0), (2, 97, 0), (2, 98, 0), (2, 99, 0), (2, 101, 0), (2, 102, 0), (2, 105, 0), (2, 106, 0), (2, 107, 0), (2, 108, 0), (2, 109, 0), (2, 110, 0), (2, 111, 0), (11, 2147483648, 2147484768), (11, 2147482048, 2147483655), (11, 2147483648, 2147483738), (11, 2147483648, 2147483678), (11, 0, 4294967295), (11, 0, 4294967295), (11, 0, 4294967295), (11, 0, 4294967295), (11, 0, 4294967295), (2, 113, 0), (2, 116, 0), (2, 117, 0), (2, 121, 0), (11, 0, 4294967295), (11, 0, 4294967295), (2, 124, 0), (2, 125, 0), (11, 0, 4294967295), (2, 126, 0), (2, 127, 0), (2, 128, 0), (2, 129, 0), (2, 130, 0)])
def bn884 : e2_Q1 := (bc191, bc3)
def bn885 : e2_Q2 := (bn196, bn884)
def bn886 : e2_Q3 := (bn885, bn201)
def bn887 : e2_Q4 := (bn195, bn886)
def bn888 : e2_Q5 := (bn887, bn365)
def bn889 : e2_Q6 := (bn888, bn250)
def bn890 : e2_Q7 := (bn845, bn889)
def bn891 : e2_Q8 := (bn733, bn890)
noncomputable def h_b172_0 : ev_H := (bn891 : e2_Q8)
def al_b172_1 : List ev_V := [(2, 83, 0), (11, 2147483745, 2147483770), (1, 3, 4294967296)]
def E_b172_1 : e2_E := [(2147483648, 2147583648, 0, 0), (2147483648, 2147483656, 1, 0), (2147483648, 2147485249, 2, 0), (2147483648, 2147485249, 3, 0)]
noncomputable def h_b172_1 : ev_H := (bn849 : e2_Q8)
def al_b172_2 : List ev_V := [(2, 83, 0), (11, 2147483696, 2147483705), (9, 0, 0)]
def E_b172_2 : e2_E := [(2147483648, 2147583648, 0, 0), (2147483648, 2147483656, 1, 0), (2147483648, 2147485249, 2, 0), (2147483648, 2147485248, 3, 0)]
noncomputable def h_b172_2 : ev_H := (bn891 : e2_Q8)
def al_b172_3 : List ev_V := [(2, 83, 0), (9, 0, 0), (9, 0, 0)]
def E_b172_3 : e2_E := [(2147483648, 2147583648, 0, 0), (2147483648, 2147483656, 1, 0), (2147483648, 2147485249, 2, 0), (2147483648, 2147485249, 3, 0)]
def bc192 : ev_C := (10, [(0, 0, 0), (2, 88, 0), (2, 115, 0), (2, 114, 0), (2, 86, 0), (2, 112, 0), (11, 2147483648, 2147483688), (2, 118, 0), (2, 120, 0), (2, 131, 0), (2, 91, 0), (11, 2147483648, 2147483668), (2, 123, 0), (0, 1, 0), (11, 2147483648, 2147485248), (2, 87, 0), (2, 84, 0), (2, 122, 0), (2, 100, 0), (2, 132, 0), (11, 2147483648, 2147483668), (11, 2147483648, 2147485248), (1, 0, 4294967296), (0, 0, 0), (1, 3, 4294967296), (2, 93, 0), (2, 104, 0), (11, 2147483648, 2147483678), (2, 89, 0), (2, 92, 0), (2, 119, 0), (2, 90, 0), (2, 94, 0), (2, 103, 0), (11, 2147483648, 2147483688), (11, 2147483648, 2147549184), (11, 0, 4294967295), (11, 2147483648, 2147485249), (11, 2147483648, 2147483653), (11, 2147483648, 2147483668), (2, 85, 0), (11, 0, 4294967295), (5, 0, 0), (2, 95, 0), (2, 96, 0), (2, 97, 0), (2, 98, 0), (2, 99, 0), (2, 101, 0), (2, 102, 0), (2, 105, 0), (2, 106, 0), (2, 107, 0), (2, 108, 0), (2, 109, 0), (2, 110, 0), (2, 111, 0), (11, 2147483648, 2147484768), (11, 2147482048, 2147483655), (11, 2147483648, 2147483738), (11, 2147483648, 2147483678), (11, 0, 4294967295), (11, 0, 4294967295), (11, 0, 4294967295), (11, 0, 4294967295), (11, 0, 4294967295), (2, 113, 0), (2, 116, 0), (2, 117, 0), (2, 121, 0), (11, 0, 4294967295), (11, 0, 4294967295), (2, 124, 0), (2, 125, 0), (11, 0, 4294967295), (2, 126, 0), (2, 127, 0), (2, 128, 0), (2, 129, 0), (2, 130, 0)])
def bn892 : e2_Q1 := (bc192, bc3)
def bn893 : e2_Q2 := (bn196, bn892)
def bn894 : e2_Q3 := (bn893, bn201)
def bn895 : e2_Q4 := (bn195, bn894)
def bn896 : e2_Q5 := (bn895, bn365)
def bn897 : e2_Q6 := (bn896, bn250)
def bn898 : e2_Q7 := (bn845, bn897)
def bn899 : e2_Q8 := (bn733, bn898)
noncomputable def h_b172_3 : ev_H := (bn899 : e2_Q8)
noncomputable def cl_b172_e : List (Nat × e2_S) := [(8, e2_cutL al_b172_3 3 (E_b172_3.take 3) (ev_hs h_b172_3 83 ((ev_hg h_b172_3 83).1, (ev_hg h_b172_3 83).2.set 24 (11, 2147483648, 2147485249))))]
set_option maxRecDepth 1000000 in
theorem ck_b172_e : e2_run (e2_cal S_b172 I_b172 4000 1) (e2_fin rs_b172) e2x_177 (e2_bpL cl_b172_e) (e2_cutA cl_b172_e) 4000 (e2_seek e2x_177 0) (e2_al 3 as_b172) [] E_b172 f_b172 = true := by decide +kernel
noncomputable def cl_b172_0 : List (Nat × e2_S) := [(119, e2_cutL al_b172_0 3 (E_b172_0.take 3) (ev_hs h_b172_0 83 ((ev_hg h_b172_0 83).1, (ev_hg h_b172_0 83).2.set 37 (13, 11, 2147485248)))),
  (156, e2_cutL (al_b172_1.set 2 (11, 2147483648, 2147485249)) 3 (E_b172_1.take 3) h_b172_1)]
set_option maxRecDepth 1000000 in
theorem ck_b172_0 : e2_runM (e2_cal S_b172 I_b172 4000 1) (e2_fin rs_b172) e2x_177 (e2_bpL cl_b172_0) (e2_cutA cl_b172_0) 4000 (e2_seek e2x_177 119) al_b172_0 [] E_b172_0 h_b172_0 = true := by decide +kernel
set_option maxRecDepth 1000000 in
theorem ci_b172_0 : e2_idl 3 al_b172_0 = true := by decide +kernel
set_option maxRecDepth 1000000 in
theorem cj_b172_0 : e2_idh 3 8 (ev_hs h_b172_0 83 ((ev_hg h_b172_0 83).1, (ev_hg h_b172_0 83).2.set 37 (7, 0, 0))) = true := by decide +kernel
set_option maxRecDepth 1000000 in
theorem cg_b172_0 : (ev_hg h_b172_0 83).1 < 50 ∧ (ev_hg h_b172_0 83).2[37]? = some (1, 3, 4294967296) := by decide +kernel
noncomputable def cl_b172_1 : List (Nat × e2_S) := [(156, e2_cutL (al_b172_1.set 2 (13, 11, 2147485249)) 3 (E_b172_1.take 3) h_b172_1)]
set_option maxRecDepth 1000000 in
theorem ck_b172_1 : e2_runM (e2_cal S_b172 I_b172 4000 1) (e2_fin rs_b172) e2x_177 (e2_bpL cl_b172_1) (e2_cutA cl_b172_1) 4000 (e2_seek e2x_177 156) al_b172_1 [] E_b172_1 h_b172_1 = true := by decide +kernel
set_option maxRecDepth 1000000 in
theorem ci_b172_1 : e2_idl 3 (al_b172_1.set 2 (9, 0, 0)) = true := by decide +kernel
set_option maxRecDepth 1000000 in
theorem cj_b172_1 : e2_idh 3 8 h_b172_1 = true := by decide +kernel
noncomputable def cl_b172_2 : List (Nat × e2_S) := [(259, e2_cutL al_b172_2 3 (E_b172_2.take 3) (ev_hs h_b172_2 83 ((ev_hg h_b172_2 83).1, (ev_hg h_b172_2 83).2.set 37 (13, 11, 2147485248))))]
set_option maxRecDepth 1000000 in
theorem ck_b172_2 : e2_runM (e2_cal S_b172 I_b172 4000 1) (e2_fin rs_b172) e2x_177 (e2_bpL cl_b172_2) (e2_cutA cl_b172_2) 4000 (e2_seek e2x_177 259) al_b172_2 [] E_b172_2 h_b172_2 = true := by decide +kernel
set_option maxRecDepth 1000000 in
theorem ci_b172_2 : e2_idl 3 al_b172_2 = true := by decide +kernel
set_option maxRecDepth 1000000 in
theorem cj_b172_2 : e2_idh 3 8 (ev_hs h_b172_2 83 ((ev_hg h_b172_2 83).1, (ev_hg h_b172_2 83).2.set 37 (7, 0, 0))) = true := by decide +kernel
set_option maxRecDepth 1000000 in
theorem cg_b172_2 : (ev_hg h_b172_2 83).1 < 50 ∧ (ev_hg h_b172_2 83).2[37]? = some (1, 3, 4294967296) := by decide +kernel
noncomputable def cl_b172_3 : List (Nat × e2_S) := [(119, e2_cutL al_b172_0 3 (E_b172_0.take 3) (ev_hs h_b172_0 83 ((ev_hg h_b172_0 83).1, (ev_hg h_b172_0 83).2.set 37 (11, 2147483649, 2147485248)))),
  (259, e2_cutL al_b172_2 3 (E_b172_2.take 3) (ev_hs h_b172_2 83 ((ev_hg h_b172_2 83).1, (ev_hg h_b172_2 83).2.set 37 (11, 2147483648, 2147485248)))),
  (8, e2_cutL al_b172_3 3 (E_b172_3.take 3) (ev_hs h_b172_3 83 ((ev_hg h_b172_3 83).1, (ev_hg h_b172_3 83).2.set 24 (13, 11, 2147485249))))]
set_option maxRecDepth 1000000 in
theorem ck_b172_3 : e2_runM (e2_cal S_b172 I_b172 4000 1) (e2_fin rs_b172) e2x_177 (e2_bpL cl_b172_3) (e2_cutA cl_b172_3) 4000 (e2_seek e2x_177 8) al_b172_3 [] E_b172_3 h_b172_3 = true := by decide +kernel
set_option maxRecDepth 1000000 in
theorem ci_b172_3 : e2_idl 3 al_b172_3 = true := by decide +kernel
set_option maxRecDepth 1000000 in
theorem cj_b172_3 : e2_idh 3 8 (ev_hs h_b172_3 83 ((ev_hg h_b172_3 83).1, (ev_hg h_b172_3 83).2.set 24 (7, 0, 0))) = true := by decide +kernel
set_option maxRecDepth 1000000 in
theorem cg_b172_3 : (ev_hg h_b172_3 83).1 < 50 ∧ (ev_hg h_b172_3 83).2[24]? = some (1, 3, 4294967296) := by decide +kernel
theorem cs_b172 (hen : en_ok) (l : Launch) : e2_smOk l 3 s_b172 := by
  refine e2_conG (H := 1) (n := 1) (C := evd_177) (S := S_b172) (I := I_b172) (fuel := 4000) hen ei_177 (e2_fa (cs_b171 hen l) e2_fz) (e2_fa ein_170 (e2_fa ein_171 (e2_fa ein_172 (e2_fa ein_176 e2_fz)))) (by decide) co_b172 fun M d _ hC hcall p e R s m args below meth c Q D cA A ads r0 ha hl0 => ?_
  have L_2 : e2_gdM M p l e R s m args below meth c Q D cA A ads r0 259 al_b172_2 [] E_b172_2 h_b172_2 := by
    refine e2_indH (u := 3) (a := 83) (j := 37) (lo := 2147483648) (hi := 2147485248) (b := 3) (dd := 0) hl0 (by decide) rfl rfl (Or.inr ⟨rfl, rfl⟩) (by decide) cg_b172_2.1 cg_b172_2.2 ci_b172_2 cj_b172_2 rfl ?_
    intro r_2 k_2 hk_2 hp_2 hs_2 hn_2
    have hl_2 : r_2.length ≤ 4 := hs_2.len rfl
    have ha_2 := ha.ext hp_2
    exact e2_fromM hen ha_2 hcall (e2_cutA_ok (e2_fa (fun al st E h hc => hn_2 al st E h hc) e2_fz)) (hC []) (X := e2x_177) ex2_177 259 ck_b172_2
  have EN_2 := e2_entH (u := 3) (a := 83) (j := 37) (lo := 2147483648) (hi := 2147485248) hl0 rfl rfl (by decide) cg_b172_2.1 cg_b172_2.2 ci_b172_2 cj_b172_2 rfl L_2
  have L_1 : e2_gdM M p l e R s m args below meth c Q D cA A ads r0 156 al_b172_1 [] E_b172_1 h_b172_1 := by
    refine e2_indL (u := 3) (j := 2) (lo := 2147483648) (hi := 2147485249) (b := 3) (dd := 0) hl0 (by decide) rfl rfl (Or.inr ⟨rfl, rfl⟩) rfl ci_b172_1 cj_b172_1 ?_
    intro r_1 k_1 hk_1 hp_1 hs_1 hn_1
    have hl_1 : r_1.length ≤ 4 := hs_1.len rfl
    have ha_1 := ha.ext hp_1
    exact e2_fromM hen ha_1 hcall (e2_cutA_ok (e2_fa (fun al st E h hc => hn_1 al st E h hc) e2_fz)) (hC []) (X := e2x_177) ex2_177 156 ck_b172_1
  have EN_1 := e2_entL (u := 3) (j := 2) (lo := 2147483648) (hi := 2147485249) hl0 rfl rfl rfl ci_b172_1 cj_b172_1 L_1
  have L_0 : e2_gdM M p l e R s m args below meth c Q D cA A ads r0 119 al_b172_0 [] E_b172_0 h_b172_0 := by
    refine e2_indH (u := 3) (a := 83) (j := 37) (lo := 2147483649) (hi := 2147485248) (b := 3) (dd := 0) hl0 (by decide) rfl rfl (Or.inr ⟨rfl, rfl⟩) (by decide) cg_b172_0.1 cg_b172_0.2 ci_b172_0 cj_b172_0 rfl ?_
    intro r_0 k_0 hk_0 hp_0 hs_0 hn_0
    have hl_0 : r_0.length ≤ 4 := hs_0.len rfl
    have ha_0 := ha.ext hp_0
    exact e2_fromM hen ha_0 hcall (e2_cutA_ok (e2_fa (fun al st E h hc => hn_0 al st E h hc) (e2_fa (fun al st E h hc => (EN_1 al st E h hc).ext hp_0) e2_fz))) (hC []) (X := e2x_177) ex2_177 119 ck_b172_0
  have EN_0 := e2_entH (u := 3) (a := 83) (j := 37) (lo := 2147483649) (hi := 2147485248) hl0 rfl rfl (by decide) cg_b172_0.1 cg_b172_0.2 ci_b172_0 cj_b172_0 rfl L_0
  have L_3 : e2_gdM M p l e R s m args below meth c Q D cA A ads r0 8 al_b172_3 [] E_b172_3 h_b172_3 := by
    refine e2_indH (u := 3) (a := 83) (j := 24) (lo := 2147483648) (hi := 2147485249) (b := 3) (dd := 0) hl0 (by decide) rfl rfl (Or.inr ⟨rfl, rfl⟩) (by decide) cg_b172_3.1 cg_b172_3.2 ci_b172_3 cj_b172_3 rfl ?_
    intro r_3 k_3 hk_3 hp_3 hs_3 hn_3
    have hl_3 : r_3.length ≤ 4 := hs_3.len rfl
    have ha_3 := ha.ext hp_3
    exact e2_fromM hen ha_3 hcall (e2_cutA_ok (e2_fa (fun al st E h hc => (EN_0 al st E h hc).ext hp_3) (e2_fa (fun al st E h hc => (EN_2 al st E h hc).ext hp_3) (e2_fa (fun al st E h hc => hn_3 al st E h hc) e2_fz)))) (hC []) (X := e2x_177) ex2_177 8 ck_b172_3
  have EN_3 := e2_entH (u := 3) (a := 83) (j := 24) (lo := 2147483648) (hi := 2147485249) hl0 rfl rfl (by decide) cg_b172_3.1 cg_b172_3.2 ci_b172_3 cj_b172_3 rfl L_3
  exact e2_from hen ha hcall (e2_cutA_ok (e2_fa (fun al st E h hc => EN_3 al st E h hc) e2_fz)) (hC []) (X := e2x_177) ex2_177 0 ck_b172_e
/-! b173 X10_goOn -/
def as_b173 : List ev_V := [(2, 83, 0)]
def E_b173 : e2_E := [(2147483648, 2147583648, 0, 0), (2147483648, 2147483656, 1, 0), (2147483648, 2147485249, 2, 0)]
def bc193 : ev_C := (10, [(0, 0, 0), (2, 88, 0), (2, 115, 0), (2, 114, 0), (2, 86, 0), (2, 112, 0), (11, 2147483648, 2147483688), (2, 118, 0), (2, 120, 0), (2, 131, 0), (2, 91, 0), (11, 2147483648, 2147483668), (2, 123, 0), (0, 1, 0), (11, 2147483648, 2147485248), (2, 87, 0), (2, 84, 0), (2, 122, 0), (2, 100, 0), (2, 132, 0), (11, 2147483648, 2147483668), (11, 2147483648, 2147485248), (1, 0, 4294967296), (0, 0, 0), (11, 2147483648, 2147485248), (2, 93, 0), (2, 104, 0), (11, 2147483648, 2147483678), (2, 89, 0), (2, 92, 0), (2, 119, 0), (2, 90, 0), (2, 94, 0), (2, 103, 0), (11, 2147483648, 2147483688), (11, 2147483648, 2147549184), (11, 0, 4294967295), (13, 2, 2147485249), (11, 2147483650, 2147483651), (11, 2147483648, 2147483668), (2, 85, 0), (11, 0, 4294967295), (5, 0, 0), (2, 95, 0), (2, 96, 0), (2, 97, 0), (2, 98, 0), (2, 99, 0), (2, 101, 0), (2, 102, 0), (2, 105, 0), (2, 106, 0), (2, 107, 0), (2, 108, 0), (2, 109, 0), (2, 110, 0), (2, 111, 0), (11, 2147483648, 2147484768), (11, 2147482048, 2147483655), (11, 2147483648, 2147483738), (11, 2147483648, 2147483678), (11, 0, 4294967295), (11, 0, 4294967295), (11, 0, 4294967295), (11, 0, 4294967295), (11, 0, 4294967295), (2, 113, 0), (2, 116, 0), (2, 117, 0), (2, 121, 0), (11, 0, 4294967295), (11, 0, 4294967295), (2, 124, 0), (2, 125, 0), (11, 0, 4294967295), (2, 126, 0), (2, 127, 0), (2, 128, 0), (2, 129, 0), (2, 130, 0)])
def bn900 : e2_Q1 := (bc193, bc3)
def bn901 : e2_Q2 := (bn196, bn900)
def bn902 : e2_Q3 := (bn901, bn201)
def bn903 : e2_Q4 := (bn195, bn902)
def bn904 : e2_Q5 := (bn903, bn365)
def bn905 : e2_Q6 := (bn904, bn250)
def bn906 : e2_Q7 := (bn845, bn905)
def bn907 : e2_Q8 := (bn733, bn906)
noncomputable def f_b173 : ev_H := (bn907 : e2_Q8)
def bc194 : ev_C := (10, [(0, 0, 0), (2, 88, 0), (2, 115, 0), (2, 114, 0), (2, 86, 0), (2, 112, 0), (11, 2147483648, 2147483688), (2, 118, 0), (2, 120, 0), (2, 131, 0), (2, 91, 0), (11, 2147483648, 2147483668), (2, 123, 0), (0, 1, 0), (11, 2147483648, 2147485248), (2, 87, 0), (2, 84, 0), (2, 122, 0), (2, 100, 0), (2, 132, 0), (11, 2147483648, 2147483668), (11, 2147483648, 2147485248), (1, 0, 4294967296), (0, 0, 0), (13, 2, 2147485247), (2, 93, 0), (2, 104, 0), (11, 2147483648, 2147483678), (2, 89, 0), (2, 92, 0), (2, 119, 0), (2, 90, 0), (2, 94, 0), (2, 103, 0), (11, 2147483648, 2147483688), (11, 2147483648, 2147549184), (11, 0, 4294967295), (13, 2, 2147485248), (0, 1, 0), (11, 2147483648, 2147483668), (2, 85, 0), (11, 0, 4294967295), (5, 0, 0), (2, 95, 0), (2, 96, 0), (2, 97, 0), (2, 98, 0), (2, 99, 0), (2, 101, 0), (2, 102, 0), (2, 105, 0), (2, 106, 0), (2, 107, 0), (2, 108, 0), (2, 109, 0), (2, 110, 0), (2, 111, 0), (11, 2147483648, 2147484768), (11, 2147482048, 2147483655), (11, 2147483648, 2147483738), (11, 2147483648, 2147483678), (11, 0, 4294967295), (11, 0, 4294967295), (11, 0, 4294967295), (11, 0, 4294967295), (11, 0, 4294967295), (2, 113, 0), (2, 116, 0), (2, 117, 0), (2, 121, 0), (11, 0, 4294967295), (11, 0, 4294967295), (2, 124, 0), (2, 125, 0), (11, 0, 4294967295), (2, 126, 0), (2, 127, 0), (2, 128, 0), (2, 129, 0), (2, 130, 0)])
def bn908 : e2_Q1 := (bc194, bc3)
def bn909 : e2_Q2 := (bn196, bn908)
def bn910 : e2_Q3 := (bn909, bn201)
def bn911 : e2_Q4 := (bn195, bn910)
def bn912 : e2_Q5 := (bn911, bn365)
def bn913 : e2_Q6 := (bn912, bn250)
def bn914 : e2_Q7 := (bn845, bn913)
def bn915 : e2_Q8 := (bn733, bn914)
noncomputable def q_b173_0 : ev_H := (bn915 : e2_Q8)
def bc195 : ev_C := (10, [(0, 0, 0), (2, 88, 0), (2, 115, 0), (2, 114, 0), (2, 86, 0), (2, 112, 0), (11, 2147483648, 2147483688), (2, 118, 0), (2, 120, 0), (2, 131, 0), (2, 91, 0), (11, 2147483648, 2147483668), (2, 123, 0), (0, 1, 0), (11, 2147483648, 2147485248), (2, 87, 0), (2, 84, 0), (2, 122, 0), (2, 100, 0), (2, 132, 0), (11, 2147483648, 2147483668), (11, 2147483648, 2147485248), (1, 0, 4294967296), (0, 0, 0), (13, 2, 2147485247), (2, 93, 0), (2, 104, 0), (11, 2147483648, 2147483678), (2, 89, 0), (2, 92, 0), (2, 119, 0), (2, 90, 0), (2, 94, 0), (2, 103, 0), (11, 2147483648, 2147483688), (11, 2147483648, 2147549184), (11, 0, 4294967295), (13, 10, 2147485248), (11, 2147483650, 2147483651), (11, 2147483648, 2147483668), (2, 85, 0), (11, 0, 4294967295), (5, 0, 0), (2, 95, 0), (2, 96, 0), (2, 97, 0), (2, 98, 0), (2, 99, 0), (2, 101, 0), (2, 102, 0), (2, 105, 0), (2, 106, 0), (2, 107, 0), (2, 108, 0), (2, 109, 0), (2, 110, 0), (2, 111, 0), (11, 2147483648, 2147484768), (11, 2147482048, 2147483655), (11, 2147483648, 2147483738), (11, 2147483648, 2147483678), (11, 0, 4294967295), (11, 0, 4294967295), (11, 0, 4294967295), (11, 0, 4294967295), (11, 0, 4294967295), (2, 113, 0), (2, 116, 0), (2, 117, 0), (2, 121, 0), (11, 0, 4294967295), (11, 0, 4294967295), (2, 124, 0), (2, 125, 0), (11, 0, 4294967295), (2, 126, 0), (2, 127, 0), (2, 128, 0), (2, 129, 0), (2, 130, 0)])
def bn916 : e2_Q1 := (bc195, bc3)
def bn917 : e2_Q2 := (bn196, bn916)
def bn918 : e2_Q3 := (bn917, bn201)
def bn919 : e2_Q4 := (bn195, bn918)
def bn920 : e2_Q5 := (bn919, bn365)
def bn921 : e2_Q6 := (bn920, bn250)
def bn922 : e2_Q7 := (bn845, bn921)
def bn923 : e2_Q8 := (bn733, bn922)
noncomputable def q_b173_1 : ev_H := (bn923 : e2_Q8)
def bc196 : ev_C := (10, [(0, 0, 0), (2, 88, 0), (2, 115, 0), (2, 114, 0), (2, 86, 0), (2, 112, 0), (11, 2147483648, 2147483688), (2, 118, 0), (2, 120, 0), (2, 131, 0), (2, 91, 0), (11, 2147483648, 2147483668), (2, 123, 0), (0, 1, 0), (11, 2147483648, 2147485248), (2, 87, 0), (2, 84, 0), (2, 122, 0), (2, 100, 0), (2, 132, 0), (11, 2147483648, 2147483668), (11, 2147483648, 2147485248), (1, 0, 4294967296), (0, 0, 0), (13, 2, 2147485247), (2, 93, 0), (2, 104, 0), (11, 2147483648, 2147483678), (2, 89, 0), (2, 92, 0), (2, 119, 0), (2, 90, 0), (2, 94, 0), (2, 103, 0), (11, 2147483648, 2147483688), (11, 2147483648, 2147549184), (11, 0, 4294967295), (13, 2, 2147485248), (0, 4, 0), (11, 2147483648, 2147483668), (2, 85, 0), (11, 0, 4294967295), (5, 0, 0), (2, 95, 0), (2, 96, 0), (2, 97, 0), (2, 98, 0), (2, 99, 0), (2, 101, 0), (2, 102, 0), (2, 105, 0), (2, 106, 0), (2, 107, 0), (2, 108, 0), (2, 109, 0), (2, 110, 0), (2, 111, 0), (11, 2147483648, 2147484768), (11, 2147482048, 2147483655), (11, 2147483648, 2147483738), (11, 2147483648, 2147483678), (11, 0, 4294967295), (11, 0, 4294967295), (11, 0, 4294967295), (11, 0, 4294967295), (11, 0, 4294967295), (2, 113, 0), (2, 116, 0), (2, 117, 0), (2, 121, 0), (11, 0, 4294967295), (11, 0, 4294967295), (2, 124, 0), (2, 125, 0), (11, 0, 4294967295), (2, 126, 0), (2, 127, 0), (2, 128, 0), (2, 129, 0), (2, 130, 0)])
def bn924 : e2_Q1 := (bc196, bc3)
def bn925 : e2_Q2 := (bn196, bn924)
def bn926 : e2_Q3 := (bn925, bn201)
def bn927 : e2_Q4 := (bn195, bn926)
def bn928 : e2_Q5 := (bn927, bn365)
def bn929 : e2_Q6 := (bn928, bn250)
def bn930 : e2_Q7 := (bn845, bn929)
def bn931 : e2_Q8 := (bn733, bn930)
noncomputable def q_b173_2 : ev_H := (bn931 : e2_Q8)
def bc197 : ev_C := (10, [(0, 0, 0), (2, 88, 0), (2, 115, 0), (2, 114, 0), (2, 86, 0), (2, 112, 0), (11, 2147483648, 2147483688), (2, 118, 0), (2, 120, 0), (2, 131, 0), (2, 91, 0), (11, 2147483648, 2147483668), (2, 123, 0), (0, 1, 0), (11, 2147483648, 2147485248), (2, 87, 0), (2, 84, 0), (2, 122, 0), (2, 100, 0), (2, 132, 0), (11, 2147483648, 2147483668), (11, 2147483648, 2147485248), (1, 0, 4294967296), (0, 0, 0), (11, 2147483648, 2147485248), (2, 93, 0), (2, 104, 0), (11, 2147483648, 2147483678), (2, 89, 0), (2, 92, 0), (2, 119, 0), (2, 90, 0), (2, 94, 0), (2, 103, 0), (11, 2147483648, 2147483688), (11, 2147483648, 2147549184), (11, 0, 4294967295), (11, 2147483648, 2147485248), (0, 0, 0), (11, 2147483648, 2147483668), (2, 85, 0), (11, 0, 4294967295), (5, 0, 0), (2, 95, 0), (2, 96, 0), (2, 97, 0), (2, 98, 0), (2, 99, 0), (2, 101, 0), (2, 102, 0), (2, 105, 0), (2, 106, 0), (2, 107, 0), (2, 108, 0), (2, 109, 0), (2, 110, 0), (2, 111, 0), (11, 2147483648, 2147484768), (11, 2147482048, 2147483655), (11, 2147483648, 2147483738), (11, 2147483648, 2147483678), (11, 0, 4294967295), (11, 0, 4294967295), (11, 0, 4294967295), (11, 0, 4294967295), (11, 0, 4294967295), (2, 113, 0), (2, 116, 0), (2, 117, 0), (2, 121, 0), (11, 0, 4294967295), (11, 0, 4294967295), (2, 124, 0), (2, 125, 0), (11, 0, 4294967295), (2, 126, 0), (2, 127, 0), (2, 128, 0), (2, 129, 0), (2, 130, 0)])
def bn932 : e2_Q1 := (bc197, bc3)
def bn933 : e2_Q2 := (bn196, bn932)
def bn934 : e2_Q3 := (bn933, bn201)
def bn935 : e2_Q4 := (bn195, bn934)
def bn936 : e2_Q5 := (bn935, bn365)
def bn937 : e2_Q6 := (bn936, bn250)
def bn938 : e2_Q7 := (bn845, bn937)
def bn939 : e2_Q8 := (bn733, bn938)
noncomputable def q_b173_3 : ev_H := (bn939 : e2_Q8)
def bc198 : ev_C := (10, [(0, 0, 0), (2, 88, 0), (2, 115, 0), (2, 114, 0), (2, 86, 0), (2, 112, 0), (11, 2147483648, 2147483688), (2, 118, 0), (2, 120, 0), (2, 131, 0), (2, 91, 0), (11, 2147483648, 2147483668), (2, 123, 0), (0, 1, 0), (11, 2147483648, 2147485248), (2, 87, 0), (2, 84, 0), (2, 122, 0), (2, 100, 0), (2, 132, 0), (11, 2147483648, 2147483668), (11, 2147483648, 2147485248), (1, 0, 4294967296), (0, 0, 0), (13, 2, 2147485247), (2, 93, 0), (2, 104, 0), (11, 2147483648, 2147483678), (2, 89, 0), (2, 92, 0), (2, 119, 0), (2, 90, 0), (2, 94, 0), (2, 103, 0), (11, 2147483648, 2147483688), (11, 2147483648, 2147549184), (11, 0, 4294967295), (13, 10, 2147485248), (0, 5, 0), (11, 2147483648, 2147483668), (2, 85, 0), (11, 0, 4294967295), (5, 0, 0), (2, 95, 0), (2, 96, 0), (2, 97, 0), (2, 98, 0), (2, 99, 0), (2, 101, 0), (2, 102, 0), (2, 105, 0), (2, 106, 0), (2, 107, 0), (2, 108, 0), (2, 109, 0), (2, 110, 0), (2, 111, 0), (11, 2147483648, 2147484768), (11, 2147482048, 2147483655), (11, 2147483648, 2147483738), (11, 2147483648, 2147483678), (11, 0, 4294967295), (11, 0, 4294967295), (11, 0, 4294967295), (11, 0, 4294967295), (11, 0, 4294967295), (2, 113, 0), (2, 116, 0), (2, 117, 0), (2, 121, 0), (11, 0, 4294967295), (11, 0, 4294967295), (2, 124, 0), (2, 125, 0), (11, 0, 4294967295), (2, 126, 0), (2, 127, 0), (2, 128, 0), (2, 129, 0), (2, 130, 0)])
def bn940 : e2_Q1 := (bc198, bc3)
def bn941 : e2_Q2 := (bn196, bn940)
def bn942 : e2_Q3 := (bn941, bn201)
def bn943 : e2_Q4 := (bn195, bn942)
def bn944 : e2_Q5 := (bn943, bn365)
def bn945 : e2_Q6 := (bn944, bn250)
def bn946 : e2_Q7 := (bn845, bn945)
def bn947 : e2_Q8 := (bn733, bn946)
noncomputable def q_b173_4 : ev_H := (bn947 : e2_Q8)
noncomputable def rs_b173 : e2_Rs := [((9, 0, 0), q_b173_0), ((9, 0, 0), q_b173_1), ((9, 0, 0), q_b173_2), ((9, 0, 0), q_b173_3), ((9, 0, 0), q_b173_4)]
noncomputable def s_b173 : e2_Sm := (177, as_b173, E_b173, f_b173, rs_b173)
noncomputable def S_b173 : List e2_Sm := [s_b171]
noncomputable def I_b173 : List e2_In := [(170, 2, e2x_170), (171, 1, e2x_171), (172, 1, e2x_172), (176, 1, e2x_176)]
set_option maxRecDepth 1000000 in
theorem co_b173 : e2_okSB E_b173.length as_b173 f_b173 rs_b173 = true := by decide +kernel
def al_b173_0 : List ev_V := [(2, 83, 0), (11, 2147483745, 2147483770), (9, 0, 0)]
def E_b173_0 : e2_E := [(2147483648, 2147583648, 0, 0), (2147483648, 2147483656, 1, 0), (2147483648, 2147485249, 2, 0), (2147483649, 2147485248, 2, 1)]
def bc199 : ev_C := (10, [(0, 0, 0), (2, 88, 0), (2, 115, 0), (2, 114, 0), (2, 86, 0), (2, 112, 0), (11, 2147483648, 2147483688), (2, 118, 0), (2, 120, 0), (2, 131, 0), (2, 91, 0), (11, 2147483648, 2147483668), (2, 123, 0), (0, 1, 0), (11, 2147483648, 2147485248), (2, 87, 0), (2, 84, 0), (2, 122, 0), (2, 100, 0), (2, 132, 0), (11, 2147483648, 2147483668), (11, 2147483648, 2147485248), (1, 0, 4294967296), (0, 0, 0), (13, 2, 2147485247), (2, 93, 0), (2, 104, 0), (11, 2147483648, 2147483678), (2, 89, 0), (2, 92, 0), (2, 119, 0), (2, 90, 0), (2, 94, 0), (2, 103, 0), (11, 2147483648, 2147483688), (11, 2147483648, 2147549184), (11, 0, 4294967295), (1, 3, 4294967296), (11, 2147483650, 2147483651), (11, 2147483648, 2147483668), (2, 85, 0), (11, 0, 4294967295), (5, 0, 0), (2, 95, 0), (2, 96, 0), (2, 97, 0), (2, 98, 0), (2, 99, 0), (2, 101, 0), (2, 102, 0), (2, 105, 0), (2, 106, 0), (2, 107, 0), (2, 108, 0), (2, 109, 0), (2, 110, 0), (2, 111, 0), (11, 2147483648, 2147484768), (11, 2147482048, 2147483655), (11, 2147483648, 2147483738), (11, 2147483648, 2147483678), (11, 0, 4294967295), (11, 0, 4294967295), (11, 0, 4294967295), (11, 0, 4294967295), (11, 0, 4294967295), (2, 113, 0), (2, 116, 0), (2, 117, 0), (2, 121, 0), (11, 0, 4294967295), (11, 0, 4294967295), (2, 124, 0), (2, 125, 0), (11, 0, 4294967295), (2, 126, 0), (2, 127, 0), (2, 128, 0), (2, 129, 0), (2, 130, 0)])
def bn948 : e2_Q1 := (bc199, bc3)
def bn949 : e2_Q2 := (bn196, bn948)
def bn950 : e2_Q3 := (bn949, bn201)
def bn951 : e2_Q4 := (bn195, bn950)
def bn952 : e2_Q5 := (bn951, bn365)
def bn953 : e2_Q6 := (bn952, bn250)
def bn954 : e2_Q7 := (bn845, bn953)
def bn955 : e2_Q8 := (bn733, bn954)
noncomputable def h_b173_0 : ev_H := (bn955 : e2_Q8)
def al_b173_1 : List ev_V := [(2, 83, 0), (11, 2147483745, 2147483770), (1, 3, 4294967296)]
def E_b173_1 : e2_E := [(2147483648, 2147583648, 0, 0), (2147483648, 2147483656, 1, 0), (2147483648, 2147485249, 2, 0), (2147483648, 2147485248, 3, 0)]
noncomputable def h_b173_1 : ev_H := (bn923 : e2_Q8)
def al_b173_2 : List ev_V := [(2, 83, 0), (11, 2147483696, 2147483705), (9, 0, 0)]
def E_b173_2 : e2_E := [(2147483648, 2147583648, 0, 0), (2147483648, 2147483656, 1, 0), (2147483648, 2147485249, 2, 0), (2147483648, 2147485248, 2, 0)]
noncomputable def h_b173_2 : ev_H := (bn955 : e2_Q8)
def al_b173_3 : List ev_V := [(2, 83, 0), (9, 0, 0), (9, 0, 0)]
def E_b173_3 : e2_E := [(2147483648, 2147583648, 0, 0), (2147483648, 2147483656, 1, 0), (2147483648, 2147485249, 2, 0), (2147483648, 2147485249, 2, 0)]
def bc200 : ev_C := (10, [(0, 0, 0), (2, 88, 0), (2, 115, 0), (2, 114, 0), (2, 86, 0), (2, 112, 0), (11, 2147483648, 2147483688), (2, 118, 0), (2, 120, 0), (2, 131, 0), (2, 91, 0), (11, 2147483648, 2147483668), (2, 123, 0), (0, 1, 0), (11, 2147483648, 2147485248), (2, 87, 0), (2, 84, 0), (2, 122, 0), (2, 100, 0), (2, 132, 0), (11, 2147483648, 2147483668), (11, 2147483648, 2147485248), (1, 0, 4294967296), (0, 0, 0), (1, 3, 4294967296), (2, 93, 0), (2, 104, 0), (11, 2147483648, 2147483678), (2, 89, 0), (2, 92, 0), (2, 119, 0), (2, 90, 0), (2, 94, 0), (2, 103, 0), (11, 2147483648, 2147483688), (11, 2147483648, 2147549184), (11, 0, 4294967295), (13, 2, 2147485249), (11, 2147483650, 2147483651), (11, 2147483648, 2147483668), (2, 85, 0), (11, 0, 4294967295), (5, 0, 0), (2, 95, 0), (2, 96, 0), (2, 97, 0), (2, 98, 0), (2, 99, 0), (2, 101, 0), (2, 102, 0), (2, 105, 0), (2, 106, 0), (2, 107, 0), (2, 108, 0), (2, 109, 0), (2, 110, 0), (2, 111, 0), (11, 2147483648, 2147484768), (11, 2147482048, 2147483655), (11, 2147483648, 2147483738), (11, 2147483648, 2147483678), (11, 0, 4294967295), (11, 0, 4294967295), (11, 0, 4294967295), (11, 0, 4294967295), (11, 0, 4294967295), (2, 113, 0), (2, 116, 0), (2, 117, 0), (2, 121, 0), (11, 0, 4294967295), (11, 0, 4294967295), (2, 124, 0), (2, 125, 0), (11, 0, 4294967295), (2, 126, 0), (2, 127, 0), (2, 128, 0), (2, 129, 0), (2, 130, 0)])
def bn956 : e2_Q1 := (bc200, bc3)
def bn957 : e2_Q2 := (bn196, bn956)
def bn958 : e2_Q3 := (bn957, bn201)
def bn959 : e2_Q4 := (bn195, bn958)
def bn960 : e2_Q5 := (bn959, bn365)
def bn961 : e2_Q6 := (bn960, bn250)
def bn962 : e2_Q7 := (bn845, bn961)
def bn963 : e2_Q8 := (bn733, bn962)
noncomputable def h_b173_3 : ev_H := (bn963 : e2_Q8)
noncomputable def cl_b173_e : List (Nat × e2_S) := [(8, e2_cutL al_b173_3 3 (E_b173_3.take 3) (ev_hs h_b173_3 83 ((ev_hg h_b173_3 83).1, (ev_hg h_b173_3 83).2.set 24 (13, 2, 2147485249))))]
set_option maxRecDepth 1000000 in
theorem ck_b173_e : e2_run (e2_cal S_b173 I_b173 4000 1) (e2_fin rs_b173) e2x_177 (e2_bpL cl_b173_e) (e2_cutA cl_b173_e) 4000 (e2_seek e2x_177 0) (e2_al 3 as_b173) [] E_b173 f_b173 = true := by decide +kernel
noncomputable def cl_b173_0 : List (Nat × e2_S) := [(119, e2_cutL al_b173_0 3 (E_b173_0.take 3) (ev_hs h_b173_0 83 ((ev_hg h_b173_0 83).1, (ev_hg h_b173_0 83).2.set 37 (13, 11, 2147485248)))),
  (156, e2_cutL (al_b173_1.set 2 (11, 2147483648, 2147485248)) 3 (E_b173_1.take 3) h_b173_1)]
set_option maxRecDepth 1000000 in
theorem ck_b173_0 : e2_runM (e2_cal S_b173 I_b173 4000 1) (e2_fin rs_b173) e2x_177 (e2_bpL cl_b173_0) (e2_cutA cl_b173_0) 4000 (e2_seek e2x_177 119) al_b173_0 [] E_b173_0 h_b173_0 = true := by decide +kernel
set_option maxRecDepth 1000000 in
theorem ci_b173_0 : e2_idl 3 al_b173_0 = true := by decide +kernel
set_option maxRecDepth 1000000 in
theorem cj_b173_0 : e2_idh 3 8 (ev_hs h_b173_0 83 ((ev_hg h_b173_0 83).1, (ev_hg h_b173_0 83).2.set 37 (7, 0, 0))) = true := by decide +kernel
set_option maxRecDepth 1000000 in
theorem cg_b173_0 : (ev_hg h_b173_0 83).1 < 50 ∧ (ev_hg h_b173_0 83).2[37]? = some (1, 3, 4294967296) := by decide +kernel
noncomputable def cl_b173_1 : List (Nat × e2_S) := [(156, e2_cutL (al_b173_1.set 2 (13, 11, 2147485248)) 3 (E_b173_1.take 3) h_b173_1)]
set_option maxRecDepth 1000000 in
theorem ck_b173_1 : e2_runM (e2_cal S_b173 I_b173 4000 1) (e2_fin rs_b173) e2x_177 (e2_bpL cl_b173_1) (e2_cutA cl_b173_1) 4000 (e2_seek e2x_177 156) al_b173_1 [] E_b173_1 h_b173_1 = true := by decide +kernel
set_option maxRecDepth 1000000 in
theorem ci_b173_1 : e2_idl 3 (al_b173_1.set 2 (9, 0, 0)) = true := by decide +kernel
set_option maxRecDepth 1000000 in
theorem cj_b173_1 : e2_idh 3 8 h_b173_1 = true := by decide +kernel
noncomputable def cl_b173_2 : List (Nat × e2_S) := [(259, e2_cutL al_b173_2 3 (E_b173_2.take 3) (ev_hs h_b173_2 83 ((ev_hg h_b173_2 83).1, (ev_hg h_b173_2 83).2.set 37 (13, 11, 2147485248))))]
set_option maxRecDepth 1000000 in
theorem ck_b173_2 : e2_runM (e2_cal S_b173 I_b173 4000 1) (e2_fin rs_b173) e2x_177 (e2_bpL cl_b173_2) (e2_cutA cl_b173_2) 4000 (e2_seek e2x_177 259) al_b173_2 [] E_b173_2 h_b173_2 = true := by decide +kernel
set_option maxRecDepth 1000000 in
theorem ci_b173_2 : e2_idl 3 al_b173_2 = true := by decide +kernel
set_option maxRecDepth 1000000 in
theorem cj_b173_2 : e2_idh 3 8 (ev_hs h_b173_2 83 ((ev_hg h_b173_2 83).1, (ev_hg h_b173_2 83).2.set 37 (7, 0, 0))) = true := by decide +kernel
set_option maxRecDepth 1000000 in
theorem cg_b173_2 : (ev_hg h_b173_2 83).1 < 50 ∧ (ev_hg h_b173_2 83).2[37]? = some (1, 3, 4294967296) := by decide +kernel
noncomputable def cl_b173_3 : List (Nat × e2_S) := [(119, e2_cutL al_b173_0 3 (E_b173_0.take 3) (ev_hs h_b173_0 83 ((ev_hg h_b173_0 83).1, (ev_hg h_b173_0 83).2.set 37 (13, 10, 2147485248)))),
  (259, e2_cutL al_b173_2 3 (E_b173_2.take 3) (ev_hs h_b173_2 83 ((ev_hg h_b173_2 83).1, (ev_hg h_b173_2 83).2.set 37 (13, 2, 2147485248)))),
  (8, e2_cutL al_b173_3 3 (E_b173_3.take 3) (ev_hs h_b173_3 83 ((ev_hg h_b173_3 83).1, (ev_hg h_b173_3 83).2.set 24 (13, 11, 2147485249))))]
set_option maxRecDepth 1000000 in
theorem ck_b173_3 : e2_runM (e2_cal S_b173 I_b173 4000 1) (e2_fin rs_b173) e2x_177 (e2_bpL cl_b173_3) (e2_cutA cl_b173_3) 4000 (e2_seek e2x_177 8) al_b173_3 [] E_b173_3 h_b173_3 = true := by decide +kernel
set_option maxRecDepth 1000000 in
theorem ci_b173_3 : e2_idl 3 al_b173_3 = true := by decide +kernel
set_option maxRecDepth 1000000 in
theorem cj_b173_3 : e2_idh 3 8 (ev_hs h_b173_3 83 ((ev_hg h_b173_3 83).1, (ev_hg h_b173_3 83).2.set 24 (7, 0, 0))) = true := by decide +kernel
set_option maxRecDepth 1000000 in
theorem cg_b173_3 : (ev_hg h_b173_3 83).1 < 50 ∧ (ev_hg h_b173_3 83).2[24]? = some (1, 3, 4294967296) := by decide +kernel
theorem cs_b173 (hen : en_ok) (l : Launch) : e2_smOk l 3 s_b173 := by
  refine e2_conG (H := 1) (n := 1) (C := evd_177) (S := S_b173) (I := I_b173) (fuel := 4000) hen ei_177 (e2_fa (cs_b171 hen l) e2_fz) (e2_fa ein_170 (e2_fa ein_171 (e2_fa ein_172 (e2_fa ein_176 e2_fz)))) (by decide) co_b173 fun M d _ hC hcall p e R s m args below meth c Q D cA A ads r0 ha hl0 => ?_
  have L_2 : e2_gdM M p l e R s m args below meth c Q D cA A ads r0 259 al_b173_2 [] E_b173_2 h_b173_2 := by
    refine e2_indH (u := 3) (a := 83) (j := 37) (lo := 2147483648) (hi := 2147485248) (b := 2) (dd := 0) hl0 (by decide) rfl rfl (Or.inl (by decide)) (by decide) cg_b173_2.1 cg_b173_2.2 ci_b173_2 cj_b173_2 rfl ?_
    intro r_2 k_2 hk_2 hp_2 hs_2 hn_2
    have hl_2 : r_2.length ≤ 4 := hs_2.len rfl
    have ha_2 := ha.ext hp_2
    exact e2_fromM hen ha_2 hcall (e2_cutA_ok (e2_fa (fun al st E h hc => hn_2 al st E h hc) e2_fz)) (hC []) (X := e2x_177) ex2_177 259 ck_b173_2
  have EN_2 := e2_entHF (u := 3) (a := 83) (j := 37) (lo := 2147483648) (hi := 2147485248) (b := 2) (dd := 0) hl0 rfl rfl (by decide) (by decide) rfl (by decide) (by decide) cg_b173_2.1 cg_b173_2.2 ci_b173_2 cj_b173_2 rfl L_2
  have L_1 : e2_gdM M p l e R s m args below meth c Q D cA A ads r0 156 al_b173_1 [] E_b173_1 h_b173_1 := by
    refine e2_indL (u := 3) (j := 2) (lo := 2147483648) (hi := 2147485248) (b := 3) (dd := 0) hl0 (by decide) rfl rfl (Or.inr ⟨rfl, rfl⟩) rfl ci_b173_1 cj_b173_1 ?_
    intro r_1 k_1 hk_1 hp_1 hs_1 hn_1
    have hl_1 : r_1.length ≤ 4 := hs_1.len rfl
    have ha_1 := ha.ext hp_1
    exact e2_fromM hen ha_1 hcall (e2_cutA_ok (e2_fa (fun al st E h hc => hn_1 al st E h hc) e2_fz)) (hC []) (X := e2x_177) ex2_177 156 ck_b173_1
  have EN_1 := e2_entL (u := 3) (j := 2) (lo := 2147483648) (hi := 2147485248) hl0 rfl rfl rfl ci_b173_1 cj_b173_1 L_1
  have L_0 : e2_gdM M p l e R s m args below meth c Q D cA A ads r0 119 al_b173_0 [] E_b173_0 h_b173_0 := by
    refine e2_indH (u := 3) (a := 83) (j := 37) (lo := 2147483649) (hi := 2147485248) (b := 2) (dd := 1) hl0 (by decide) rfl rfl (Or.inl (by decide)) (by decide) cg_b173_0.1 cg_b173_0.2 ci_b173_0 cj_b173_0 rfl ?_
    intro r_0 k_0 hk_0 hp_0 hs_0 hn_0
    have hl_0 : r_0.length ≤ 4 := hs_0.len rfl
    have ha_0 := ha.ext hp_0
    exact e2_fromM hen ha_0 hcall (e2_cutA_ok (e2_fa (fun al st E h hc => hn_0 al st E h hc) (e2_fa (fun al st E h hc => (EN_1 al st E h hc).ext hp_0) e2_fz))) (hC []) (X := e2x_177) ex2_177 119 ck_b173_0
  have EN_0 := e2_entHF (u := 3) (a := 83) (j := 37) (lo := 2147483649) (hi := 2147485248) (b := 2) (dd := 1) hl0 rfl rfl (by decide) (by decide) rfl (by decide) (by decide) cg_b173_0.1 cg_b173_0.2 ci_b173_0 cj_b173_0 rfl L_0
  have L_3 : e2_gdM M p l e R s m args below meth c Q D cA A ads r0 8 al_b173_3 [] E_b173_3 h_b173_3 := by
    refine e2_indH (u := 3) (a := 83) (j := 24) (lo := 2147483648) (hi := 2147485249) (b := 2) (dd := 0) hl0 (by decide) rfl rfl (Or.inl (by decide)) (by decide) cg_b173_3.1 cg_b173_3.2 ci_b173_3 cj_b173_3 rfl ?_
    intro r_3 k_3 hk_3 hp_3 hs_3 hn_3
    have hl_3 : r_3.length ≤ 4 := hs_3.len rfl
    have ha_3 := ha.ext hp_3
    exact e2_fromM hen ha_3 hcall (e2_cutA_ok (e2_fa (fun al st E h hc => (EN_0 al st E h hc).ext hp_3) (e2_fa (fun al st E h hc => (EN_2 al st E h hc).ext hp_3) (e2_fa (fun al st E h hc => hn_3 al st E h hc) e2_fz)))) (hC []) (X := e2x_177) ex2_177 8 ck_b173_3
  have EN_3 := e2_entHF (u := 3) (a := 83) (j := 24) (lo := 2147483648) (hi := 2147485249) (b := 2) (dd := 0) hl0 rfl rfl (by decide) (by decide) rfl (by decide) (by decide) cg_b173_3.1 cg_b173_3.2 ci_b173_3 cj_b173_3 rfl L_3
  exact e2_from hen ha hcall (e2_cutA_ok (e2_fa (fun al st E h hc => EN_3 al st E h hc) e2_fz)) (hC []) (X := e2x_177) ex2_177 0 ck_b173_e
