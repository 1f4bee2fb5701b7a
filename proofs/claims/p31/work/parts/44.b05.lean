/-! CONTRACTS b, printed by a program -/
/-! b490 X10_thingHere -/
def as_b490 : List ev_V := [(2, 83, 0)]
def E_b490 : e2_E := [(2147483648, 2147583648, 0, 0), (2147483648, 2147483656, 1, 0), (2147483648, 2147485249, 2, 0)]
def bn2964 : e2_Q6 := (bn374, bn1639)
def bn2965 : e2_Q7 := (bn736, bn2964)
def bn2966 : e2_Q8 := (bn733, bn2965)
noncomputable def f_b490 : ev_H := (bn2966 : e2_Q8)
noncomputable def q_b490_0 : ev_H := (bn2966 : e2_Q8)
noncomputable def rs_b490 : e2_Rs := [((0, 4294967295, 0), q_b490_0)]
noncomputable def s_b490 : e2_Sm := (189, as_b490, E_b490, f_b490, rs_b490)
noncomputable def S_b490 : List e2_Sm := [s_b258]
noncomputable def I_b490 : List e2_In := []
set_option maxRecDepth 1000000 in
theorem ck_b490 : e2_run (e2_cal S_b490 I_b490 4000 0) (e2_fin rs_b490) e2x_189 (fun _ => false) (fun _ _ _ _ _ => false) 4000 (e2_seek e2x_189 0) (e2_al 1 as_b490) [] E_b490 f_b490 = true := by decide +kernel
set_option maxRecDepth 1000000 in
theorem co_b490 : e2_okSB E_b490.length as_b490 f_b490 rs_b490 = true := by decide +kernel
theorem cs_b490 (hen : en_ok) (l : Launch) : e2_smOk l 2 s_b490 := e2_con0 (H := 1) (n := 0) (C := evd_189) (S := S_b490) (I := I_b490) (fuel := 4000) [] hen ei_189 (e2_fa (cs_b258 hen l) e2_fz) e2_fz (by decide) co_b490 ex2_189 ck_b490
/-! b491 X10_readGlyph -/
def as_b491 : List ev_V := [(2, 83, 0)]
def E_b491 : e2_E := [(2147483648, 2147583648, 0, 0), (2147483648, 2147483656, 1, 0), (2147483648, 2147485249, 2, 0)]
def bn2967 : e2_Q6 := (bn1404, bn1639)
def bn2968 : e2_Q7 := (bn357, bn2967)
def bn2969 : e2_Q8 := (bn1400, bn2968)
noncomputable def f_b491 : ev_H := (bn2969 : e2_Q8)
def bn2970 : e2_Q6 := (bn1416, bn1639)
def bn2971 : e2_Q7 := (bn357, bn2970)
def bn2972 : e2_Q8 := (bn1414, bn2971)
noncomputable def q_b491_0 : ev_H := (bn2972 : e2_Q8)
noncomputable def rs_b491 : e2_Rs := [((9, 0, 0), q_b491_0)]
noncomputable def s_b491 : e2_Sm := (196, as_b491, E_b491, f_b491, rs_b491)
noncomputable def S_b491 : List e2_Sm := [s_b7, s_b179, s_b233, s_b254, s_b256, s_b257, s_b490]
noncomputable def I_b491 : List e2_In := [(179, 3, e2x_179)]
set_option maxRecDepth 1000000 in
theorem ck_b491 : e2_run (e2_cal S_b491 I_b491 4000 1) (e2_fin rs_b491) e2x_196 (fun _ => false) (fun _ _ _ _ _ => false) 4000 (e2_seek e2x_196 0) (e2_al 2 as_b491) [] E_b491 f_b491 = true := by decide +kernel
set_option maxRecDepth 1000000 in
theorem co_b491 : e2_okSB E_b491.length as_b491 f_b491 rs_b491 = true := by decide +kernel
theorem cs_b491 (hen : en_ok) (l : Launch) (hh : e2_hand_b l) : e2_smOk l 62 s_b491 := e2_con0 (H := 60) (n := 1) (C := evd_196) (S := S_b491) (I := I_b491) (fuel := 4000) [] hen ei_196 (e2_fa (hh _ hm_b7) (e2_fa ((cs_b179 hen l).mono (by decide)) (e2_fa ((cs_b233 hen l).mono (by decide)) (e2_fa ((cs_b254 hen l).mono (by decide)) (e2_fa ((cs_b256 hen l).mono (by decide)) (e2_fa ((cs_b257 hen l).mono (by decide)) (e2_fa ((cs_b490 hen l).mono (by decide)) e2_fz))))))) (e2_fa ein_179 e2_fz) (by decide) co_b491 ex2_196 ck_b491
/-! b492 X10_thingHere -/
def as_b492 : List ev_V := [(2, 83, 0)]
def E_b492 : e2_E := [(2147483648, 2147583648, 0, 0), (2147483648, 2147483656, 1, 0), (2147483648, 2147485249, 2, 0)]
def bn2973 : e2_Q6 := (bn468, bn1639)
def bn2974 : e2_Q7 := (bn736, bn2973)
def bn2975 : e2_Q8 := (bn733, bn2974)
noncomputable def f_b492 : ev_H := (bn2975 : e2_Q8)
noncomputable def q_b492_0 : ev_H := (bn2975 : e2_Q8)
noncomputable def rs_b492 : e2_Rs := [((0, 4294967295, 0), q_b492_0)]
noncomputable def s_b492 : e2_Sm := (189, as_b492, E_b492, f_b492, rs_b492)
noncomputable def S_b492 : List e2_Sm := [s_b265]
noncomputable def I_b492 : List e2_In := []
set_option maxRecDepth 1000000 in
theorem ck_b492 : e2_run (e2_cal S_b492 I_b492 4000 0) (e2_fin rs_b492) e2x_189 (fun _ => false) (fun _ _ _ _ _ => false) 4000 (e2_seek e2x_189 0) (e2_al 1 as_b492) [] E_b492 f_b492 = true := by decide +kernel
set_option maxRecDepth 1000000 in
theorem co_b492 : e2_okSB E_b492.length as_b492 f_b492 rs_b492 = true := by decide +kernel
theorem cs_b492 (hen : en_ok) (l : Launch) : e2_smOk l 2 s_b492 := e2_con0 (H := 1) (n := 0) (C := evd_189) (S := S_b492) (I := I_b492) (fuel := 4000) [] hen ei_189 (e2_fa (cs_b265 hen l) e2_fz) e2_fz (by decide) co_b492 ex2_189 ck_b492
/-! b493 X10_readGlyph -/
def as_b493 : List ev_V := [(2, 83, 0)]
def E_b493 : e2_E := [(2147483648, 2147583648, 0, 0), (2147483648, 2147483656, 1, 0), (2147483648, 2147485249, 2, 0)]
def bn2976 : e2_Q6 := (bn1425, bn1639)
def bn2977 : e2_Q7 := (bn357, bn2976)
def bn2978 : e2_Q8 := (bn1400, bn2977)
noncomputable def f_b493 : ev_H := (bn2978 : e2_Q8)
def bn2979 : e2_Q6 := (bn1430, bn1639)
def bn2980 : e2_Q7 := (bn357, bn2979)
def bn2981 : e2_Q8 := (bn1414, bn2980)
noncomputable def q_b493_0 : ev_H := (bn2981 : e2_Q8)
noncomputable def rs_b493 : e2_Rs := [((9, 0, 0), q_b493_0)]
noncomputable def s_b493 : e2_Sm := (196, as_b493, E_b493, f_b493, rs_b493)
noncomputable def S_b493 : List e2_Sm := [s_b15, s_b187, s_b245, s_b261, s_b263, s_b264, s_b492]
noncomputable def I_b493 : List e2_In := [(179, 3, e2x_179)]
set_option maxRecDepth 1000000 in
theorem ck_b493 : e2_run (e2_cal S_b493 I_b493 4000 1) (e2_fin rs_b493) e2x_196 (fun _ => false) (fun _ _ _ _ _ => false) 4000 (e2_seek e2x_196 0) (e2_al 2 as_b493) [] E_b493 f_b493 = true := by decide +kernel
set_option maxRecDepth 1000000 in
theorem co_b493 : e2_okSB E_b493.length as_b493 f_b493 rs_b493 = true := by decide +kernel
theorem cs_b493 (hen : en_ok) (l : Launch) (hh : e2_hand_b l) : e2_smOk l 62 s_b493 := e2_con0 (H := 60) (n := 1) (C := evd_196) (S := S_b493) (I := I_b493) (fuel := 4000) [] hen ei_196 (e2_fa (hh _ hm_b15) (e2_fa ((cs_b187 hen l).mono (by decide)) (e2_fa ((cs_b245 hen l).mono (by decide)) (e2_fa ((cs_b261 hen l).mono (by decide)) (e2_fa ((cs_b263 hen l).mono (by decide)) (e2_fa ((cs_b264 hen l).mono (by decide)) (e2_fa ((cs_b492 hen l).mono (by decide)) e2_fz))))))) (e2_fa ein_179 e2_fz) (by decide) co_b493 ex2_196 ck_b493
/-! b494 X10_thingHere -/
def as_b494 : List ev_V := [(2, 83, 0)]
def E_b494 : e2_E := [(2147483648, 2147583648, 0, 0), (2147483648, 2147483656, 1, 0), (2147483648, 2147485249, 2, 0)]
def bn2982 : e2_Q6 := (bn382, bn1639)
def bn2983 : e2_Q7 := (bn736, bn2982)
def bn2984 : e2_Q8 := (bn733, bn2983)
noncomputable def f_b494 : ev_H := (bn2984 : e2_Q8)
noncomputable def q_b494_0 : ev_H := (bn2984 : e2_Q8)
noncomputable def rs_b494 : e2_Rs := [((0, 4294967295, 0), q_b494_0)]
noncomputable def s_b494 : e2_Sm := (189, as_b494, E_b494, f_b494, rs_b494)
noncomputable def S_b494 : List e2_Sm := [s_b272]
noncomputable def I_b494 : List e2_In := []
set_option maxRecDepth 1000000 in
theorem ck_b494 : e2_run (e2_cal S_b494 I_b494 4000 0) (e2_fin rs_b494) e2x_189 (fun _ => false) (fun _ _ _ _ _ => false) 4000 (e2_seek e2x_189 0) (e2_al 1 as_b494) [] E_b494 f_b494 = true := by decide +kernel
set_option maxRecDepth 1000000 in
theorem co_b494 : e2_okSB E_b494.length as_b494 f_b494 rs_b494 = true := by decide +kernel
theorem cs_b494 (hen : en_ok) (l : Launch) : e2_smOk l 2 s_b494 := e2_con0 (H := 1) (n := 0) (C := evd_189) (S := S_b494) (I := I_b494) (fuel := 4000) [] hen ei_189 (e2_fa (cs_b272 hen l) e2_fz) e2_fz (by decide) co_b494 ex2_189 ck_b494
/-! b495 X10_readGlyph -/
def as_b495 : List ev_V := [(2, 83, 0)]
def E_b495 : e2_E := [(2147483648, 2147583648, 0, 0), (2147483648, 2147483656, 1, 0), (2147483648, 2147485249, 2, 0)]
def bn2985 : e2_Q6 := (bn1439, bn1639)
def bn2986 : e2_Q7 := (bn357, bn2985)
def bn2987 : e2_Q8 := (bn1400, bn2986)
noncomputable def f_b495 : ev_H := (bn2987 : e2_Q8)
def bn2988 : e2_Q6 := (bn1444, bn1639)
def bn2989 : e2_Q7 := (bn357, bn2988)
def bn2990 : e2_Q8 := (bn1414, bn2989)
noncomputable def q_b495_0 : ev_H := (bn2990 : e2_Q8)
noncomputable def rs_b495 : e2_Rs := [((9, 0, 0), q_b495_0)]
noncomputable def s_b495 : e2_Sm := (196, as_b495, E_b495, f_b495, rs_b495)
noncomputable def S_b495 : List e2_Sm := [s_b8, s_b185, s_b234, s_b268, s_b270, s_b271, s_b494]
noncomputable def I_b495 : List e2_In := [(179, 3, e2x_179)]
set_option maxRecDepth 1000000 in
theorem ck_b495 : e2_run (e2_cal S_b495 I_b495 4000 1) (e2_fin rs_b495) e2x_196 (fun _ => false) (fun _ _ _ _ _ => false) 4000 (e2_seek e2x_196 0) (e2_al 2 as_b495) [] E_b495 f_b495 = true := by decide +kernel
set_option maxRecDepth 1000000 in
theorem co_b495 : e2_okSB E_b495.length as_b495 f_b495 rs_b495 = true := by decide +kernel
theorem cs_b495 (hen : en_ok) (l : Launch) (hh : e2_hand_b l) : e2_smOk l 62 s_b495 := e2_con0 (H := 60) (n := 1) (C := evd_196) (S := S_b495) (I := I_b495) (fuel := 4000) [] hen ei_196 (e2_fa (hh _ hm_b8) (e2_fa ((cs_b185 hen l).mono (by decide)) (e2_fa ((cs_b234 hen l).mono (by decide)) (e2_fa ((cs_b268 hen l).mono (by decide)) (e2_fa ((cs_b270 hen l).mono (by decide)) (e2_fa ((cs_b271 hen l).mono (by decide)) (e2_fa ((cs_b494 hen l).mono (by decide)) e2_fz))))))) (e2_fa ein_179 e2_fz) (by decide) co_b495 ex2_196 ck_b495
/-! b496 X10_thingHere -/
def as_b496 : List ev_V := [(2, 83, 0)]
def E_b496 : e2_E := [(2147483648, 2147583648, 0, 0), (2147483648, 2147483656, 1, 0), (2147483648, 2147485249, 2, 0)]
def bn2991 : e2_Q6 := (bn366, bn1639)
def bn2992 : e2_Q7 := (bn736, bn2991)
def bn2993 : e2_Q8 := (bn733, bn2992)
noncomputable def f_b496 : ev_H := (bn2993 : e2_Q8)
noncomputable def q_b496_0 : ev_H := (bn2993 : e2_Q8)
noncomputable def rs_b496 : e2_Rs := [((0, 4294967295, 0), q_b496_0)]
noncomputable def s_b496 : e2_Sm := (189, as_b496, E_b496, f_b496, rs_b496)
noncomputable def S_b496 : List e2_Sm := [s_b279]
noncomputable def I_b496 : List e2_In := []
set_option maxRecDepth 1000000 in
theorem ck_b496 : e2_run (e2_cal S_b496 I_b496 4000 0) (e2_fin rs_b496) e2x_189 (fun _ => false) (fun _ _ _ _ _ => false) 4000 (e2_seek e2x_189 0) (e2_al 1 as_b496) [] E_b496 f_b496 = true := by decide +kernel
set_option maxRecDepth 1000000 in
theorem co_b496 : e2_okSB E_b496.length as_b496 f_b496 rs_b496 = true := by decide +kernel
theorem cs_b496 (hen : en_ok) (l : Launch) : e2_smOk l 2 s_b496 := e2_con0 (H := 1) (n := 0) (C := evd_189) (S := S_b496) (I := I_b496) (fuel := 4000) [] hen ei_189 (e2_fa (cs_b279 hen l) e2_fz) e2_fz (by decide) co_b496 ex2_189 ck_b496
/-! b497 X10_readGlyph -/
def as_b497 : List ev_V := [(2, 83, 0)]
def E_b497 : e2_E := [(2147483648, 2147583648, 0, 0), (2147483648, 2147483656, 1, 0), (2147483648, 2147485249, 2, 0)]
def bn2994 : e2_Q6 := (bn1453, bn1639)
def bn2995 : e2_Q7 := (bn357, bn2994)
def bn2996 : e2_Q8 := (bn1400, bn2995)
noncomputable def f_b497 : ev_H := (bn2996 : e2_Q8)
def bn2997 : e2_Q6 := (bn1458, bn1639)
def bn2998 : e2_Q7 := (bn357, bn2997)
def bn2999 : e2_Q8 := (bn1414, bn2998)
noncomputable def q_b497_0 : ev_H := (bn2999 : e2_Q8)
noncomputable def rs_b497 : e2_Rs := [((9, 0, 0), q_b497_0)]
noncomputable def s_b497 : e2_Sm := (196, as_b497, E_b497, f_b497, rs_b497)
noncomputable def S_b497 : List e2_Sm := [s_b6, s_b178, s_b232, s_b275, s_b277, s_b278, s_b496]
noncomputable def I_b497 : List e2_In := [(179, 3, e2x_179)]
set_option maxRecDepth 1000000 in
theorem ck_b497 : e2_run (e2_cal S_b497 I_b497 4000 1) (e2_fin rs_b497) e2x_196 (fun _ => false) (fun _ _ _ _ _ => false) 4000 (e2_seek e2x_196 0) (e2_al 2 as_b497) [] E_b497 f_b497 = true := by decide +kernel
set_option maxRecDepth 1000000 in
theorem co_b497 : e2_okSB E_b497.length as_b497 f_b497 rs_b497 = true := by decide +kernel
theorem cs_b497 (hen : en_ok) (l : Launch) (hh : e2_hand_b l) : e2_smOk l 62 s_b497 := e2_con0 (H := 60) (n := 1) (C := evd_196) (S := S_b497) (I := I_b497) (fuel := 4000) [] hen ei_196 (e2_fa (hh _ hm_b6) (e2_fa ((cs_b178 hen l).mono (by decide)) (e2_fa ((cs_b232 hen l).mono (by decide)) (e2_fa ((cs_b275 hen l).mono (by decide)) (e2_fa ((cs_b277 hen l).mono (by decide)) (e2_fa ((cs_b278 hen l).mono (by decide)) (e2_fa ((cs_b496 hen l).mono (by decide)) e2_fz))))))) (e2_fa ein_179 e2_fz) (by decide) co_b497 ex2_196 ck_b497
/-! b498 X10_thingHere -/
def as_b498 : List ev_V := [(2, 83, 0)]
def E_b498 : e2_E := [(2147483648, 2147583648, 0, 0), (2147483648, 2147483656, 1, 0), (2147483648, 2147485249, 2, 0)]
def bn3000 : e2_Q6 := (bn390, bn1639)
def bn3001 : e2_Q7 := (bn736, bn3000)
def bn3002 : e2_Q8 := (bn733, bn3001)
noncomputable def f_b498 : ev_H := (bn3002 : e2_Q8)
noncomputable def q_b498_0 : ev_H := (bn3002 : e2_Q8)
noncomputable def rs_b498 : e2_Rs := [((0, 4294967295, 0), q_b498_0)]
noncomputable def s_b498 : e2_Sm := (189, as_b498, E_b498, f_b498, rs_b498)
noncomputable def S_b498 : List e2_Sm := [s_b298]
noncomputable def I_b498 : List e2_In := []
set_option maxRecDepth 1000000 in
theorem ck_b498 : e2_run (e2_cal S_b498 I_b498 4000 0) (e2_fin rs_b498) e2x_189 (fun _ => false) (fun _ _ _ _ _ => false) 4000 (e2_seek e2x_189 0) (e2_al 1 as_b498) [] E_b498 f_b498 = true := by decide +kernel
set_option maxRecDepth 1000000 in
theorem co_b498 : e2_okSB E_b498.length as_b498 f_b498 rs_b498 = true := by decide +kernel
theorem cs_b498 (hen : en_ok) (l : Launch) : e2_smOk l 2 s_b498 := e2_con0 (H := 1) (n := 0) (C := evd_189) (S := S_b498) (I := I_b498) (fuel := 4000) [] hen ei_189 (e2_fa (cs_b298 hen l) e2_fz) e2_fz (by decide) co_b498 ex2_189 ck_b498
/-! b499 X10_thingHere -/
def as_b499 : List ev_V := [(2, 83, 0)]
def E_b499 : e2_E := [(2147483648, 2147583648, 0, 0), (2147483648, 2147483656, 1, 0), (2147483648, 2147485249, 2, 0)]
def bn3003 : e2_Q6 := (bn420, bn1639)
def bn3004 : e2_Q7 := (bn736, bn3003)
def bn3005 : e2_Q8 := (bn733, bn3004)
noncomputable def f_b499 : ev_H := (bn3005 : e2_Q8)
noncomputable def q_b499_0 : ev_H := (bn3005 : e2_Q8)
noncomputable def rs_b499 : e2_Rs := [((0, 4294967295, 0), q_b499_0)]
noncomputable def s_b499 : e2_Sm := (189, as_b499, E_b499, f_b499, rs_b499)
noncomputable def S_b499 : List e2_Sm := [s_b300]
noncomputable def I_b499 : List e2_In := []
set_option maxRecDepth 1000000 in
theorem ck_b499 : e2_run (e2_cal S_b499 I_b499 4000 0) (e2_fin rs_b499) e2x_189 (fun _ => false) (fun _ _ _ _ _ => false) 4000 (e2_seek e2x_189 0) (e2_al 1 as_b499) [] E_b499 f_b499 = true := by decide +kernel
set_option maxRecDepth 1000000 in
theorem co_b499 : e2_okSB E_b499.length as_b499 f_b499 rs_b499 = true := by decide +kernel
theorem cs_b499 (hen : en_ok) (l : Launch) : e2_smOk l 2 s_b499 := e2_con0 (H := 1) (n := 0) (C := evd_189) (S := S_b499) (I := I_b499) (fuel := 4000) [] hen ei_189 (e2_fa (cs_b300 hen l) e2_fz) e2_fz (by decide) co_b499 ex2_189 ck_b499
/-! b500 X10_thingHere -/
def as_b500 : List ev_V := [(2, 83, 0)]
def E_b500 : e2_E := [(2147483648, 2147583648, 0, 0), (2147483648, 2147483656, 1, 0), (2147483648, 2147485249, 2, 0)]
def bn3006 : e2_Q6 := (bn1134, bn1639)
def bn3007 : e2_Q7 := (bn736, bn3006)
def bn3008 : e2_Q8 := (bn733, bn3007)
noncomputable def f_b500 : ev_H := (bn3008 : e2_Q8)
noncomputable def q_b500_0 : ev_H := (bn3008 : e2_Q8)
noncomputable def rs_b500 : e2_Rs := [((0, 4294967295, 0), q_b500_0)]
noncomputable def s_b500 : e2_Sm := (189, as_b500, E_b500, f_b500, rs_b500)
noncomputable def S_b500 : List e2_Sm := [s_b306]
noncomputable def I_b500 : List e2_In := []
set_option maxRecDepth 1000000 in
theorem ck_b500 : e2_run (e2_cal S_b500 I_b500 4000 0) (e2_fin rs_b500) e2x_189 (fun _ => false) (fun _ _ _ _ _ => false) 4000 (e2_seek e2x_189 0) (e2_al 1 as_b500) [] E_b500 f_b500 = true := by decide +kernel
set_option maxRecDepth 1000000 in
theorem co_b500 : e2_okSB E_b500.length as_b500 f_b500 rs_b500 = true := by decide +kernel
theorem cs_b500 (hen : en_ok) (l : Launch) : e2_smOk l 2 s_b500 := e2_con0 (H := 1) (n := 0) (C := evd_189) (S := S_b500) (I := I_b500) (fuel := 4000) [] hen ei_189 (e2_fa (cs_b306 hen l) e2_fz) e2_fz (by decide) co_b500 ex2_189 ck_b500
/-! b501 X10_thingHere -/
def as_b501 : List ev_V := [(2, 83, 0)]
def E_b501 : e2_E := [(2147483648, 2147583648, 0, 0), (2147483648, 2147483656, 1, 0), (2147483648, 2147485249, 2, 0)]
def bn3009 : e2_Q6 := (bn1122, bn1639)
def bn3010 : e2_Q7 := (bn736, bn3009)
def bn3011 : e2_Q8 := (bn733, bn3010)
noncomputable def f_b501 : ev_H := (bn3011 : e2_Q8)
noncomputable def q_b501_0 : ev_H := (bn3011 : e2_Q8)
noncomputable def rs_b501 : e2_Rs := [((0, 4294967295, 0), q_b501_0)]
noncomputable def s_b501 : e2_Sm := (189, as_b501, E_b501, f_b501, rs_b501)
noncomputable def S_b501 : List e2_Sm := [s_b308]
noncomputable def I_b501 : List e2_In := []
set_option maxRecDepth 1000000 in
theorem ck_b501 : e2_run (e2_cal S_b501 I_b501 4000 0) (e2_fin rs_b501) e2x_189 (fun _ => false) (fun _ _ _ _ _ => false) 4000 (e2_seek e2x_189 0) (e2_al 1 as_b501) [] E_b501 f_b501 = true := by decide +kernel
set_option maxRecDepth 1000000 in
theorem co_b501 : e2_okSB E_b501.length as_b501 f_b501 rs_b501 = true := by decide +kernel
theorem cs_b501 (hen : en_ok) (l : Launch) : e2_smOk l 2 s_b501 := e2_con0 (H := 1) (n := 0) (C := evd_189) (S := S_b501) (I := I_b501) (fuel := 4000) [] hen ei_189 (e2_fa (cs_b308 hen l) e2_fz) e2_fz (by decide) co_b501 ex2_189 ck_b501
/-! b502 X10_thingHere -/
def as_b502 : List ev_V := [(2, 83, 0)]
def E_b502 : e2_E := [(2147483648, 2147583648, 0, 0), (2147483648, 2147483656, 1, 0), (2147483648, 2147485249, 2, 0)]
def bn3012 : e2_Q6 := (bn460, bn1639)
def bn3013 : e2_Q7 := (bn1490, bn3012)
def bn3014 : e2_Q8 := (bn733, bn3013)
noncomputable def f_b502 : ev_H := (bn3014 : e2_Q8)
noncomputable def q_b502_0 : ev_H := (bn3014 : e2_Q8)
noncomputable def rs_b502 : e2_Rs := [((11, 2147483647, 2147483651), q_b502_0)]
noncomputable def s_b502 : e2_Sm := (189, as_b502, E_b502, f_b502, rs_b502)
noncomputable def S_b502 : List e2_Sm := [s_b310]
noncomputable def I_b502 : List e2_In := []
set_option maxRecDepth 1000000 in
theorem ck_b502 : e2_run (e2_cal S_b502 I_b502 4000 0) (e2_fin rs_b502) e2x_189 (fun _ => false) (fun _ _ _ _ _ => false) 4000 (e2_seek e2x_189 0) (e2_al 1 as_b502) [] E_b502 f_b502 = true := by decide +kernel
set_option maxRecDepth 1000000 in
theorem co_b502 : e2_okSB E_b502.length as_b502 f_b502 rs_b502 = true := by decide +kernel
theorem cs_b502 (hen : en_ok) (l : Launch) : e2_smOk l 2 s_b502 := e2_con0 (H := 1) (n := 0) (C := evd_189) (S := S_b502) (I := I_b502) (fuel := 4000) [] hen ei_189 (e2_fa (cs_b310 hen l) e2_fz) e2_fz (by decide) co_b502 ex2_189 ck_b502
/-! b503 X10_thingHere -/
def as_b503 : List ev_V := [(2, 83, 0)]
def E_b503 : e2_E := [(2147483648, 2147583648, 0, 0), (2147483648, 2147483656, 1, 0), (2147483648, 2147485249, 2, 0)]
def bn3015 : e2_Q6 := (bn1142, bn1639)
def bn3016 : e2_Q7 := (bn1490, bn3015)
def bn3017 : e2_Q8 := (bn733, bn3016)
noncomputable def f_b503 : ev_H := (bn3017 : e2_Q8)
noncomputable def q_b503_0 : ev_H := (bn3017 : e2_Q8)
noncomputable def rs_b503 : e2_Rs := [((11, 2147483647, 2147483651), q_b503_0)]
noncomputable def s_b503 : e2_Sm := (189, as_b503, E_b503, f_b503, rs_b503)
noncomputable def S_b503 : List e2_Sm := [s_b312]
noncomputable def I_b503 : List e2_In := []
set_option maxRecDepth 1000000 in
theorem ck_b503 : e2_run (e2_cal S_b503 I_b503 4000 0) (e2_fin rs_b503) e2x_189 (fun _ => false) (fun _ _ _ _ _ => false) 4000 (e2_seek e2x_189 0) (e2_al 1 as_b503) [] E_b503 f_b503 = true := by decide +kernel
set_option maxRecDepth 1000000 in
theorem co_b503 : e2_okSB E_b503.length as_b503 f_b503 rs_b503 = true := by decide +kernel
theorem cs_b503 (hen : en_ok) (l : Launch) : e2_smOk l 2 s_b503 := e2_con0 (H := 1) (n := 0) (C := evd_189) (S := S_b503) (I := I_b503) (fuel := 4000) [] hen ei_189 (e2_fa (cs_b312 hen l) e2_fz) e2_fz (by decide) co_b503 ex2_189 ck_b503
/-! b504 X10_thingHere -/
def as_b504 : List ev_V := [(2, 83, 0)]
def E_b504 : e2_E := [(2147483648, 2147583648, 0, 0), (2147483648, 2147483656, 1, 0), (2147483648, 2147485249, 2, 0)]
def bn3018 : e2_Q6 := (bn450, bn1639)
def bn3019 : e2_Q7 := (bn1490, bn3018)
def bn3020 : e2_Q8 := (bn733, bn3019)
noncomputable def f_b504 : ev_H := (bn3020 : e2_Q8)
noncomputable def q_b504_0 : ev_H := (bn3020 : e2_Q8)
noncomputable def q_b504_1 : ev_H := (bn3017 : e2_Q8)
noncomputable def rs_b504 : e2_Rs := [((0, 4294967295, 0), q_b504_0), ((11, 2147483648, 2147483651), q_b504_1)]
noncomputable def s_b504 : e2_Sm := (189, as_b504, E_b504, f_b504, rs_b504)
noncomputable def S_b504 : List e2_Sm := [s_b314]
noncomputable def I_b504 : List e2_In := []
set_option maxRecDepth 1000000 in
theorem ck_b504 : e2_run (e2_cal S_b504 I_b504 4000 0) (e2_fin rs_b504) e2x_189 (fun _ => false) (fun _ _ _ _ _ => false) 4000 (e2_seek e2x_189 0) (e2_al 1 as_b504) [] E_b504 f_b504 = true := by decide +kernel
set_option maxRecDepth 1000000 in
theorem co_b504 : e2_okSB E_b504.length as_b504 f_b504 rs_b504 = true := by decide +kernel
theorem cs_b504 (hen : en_ok) (l : Launch) : e2_smOk l 2 s_b504 := e2_con0 (H := 1) (n := 0) (C := evd_189) (S := S_b504) (I := I_b504) (fuel := 4000) [] hen ei_189 (e2_fa (cs_b314 hen l) e2_fz) e2_fz (by decide) co_b504 ex2_189 ck_b504
/-! b505 X10_readGlyph -/
def as_b505 : List ev_V := [(2, 83, 0)]
def E_b505 : e2_E := [(2147483648, 2147583648, 0, 0), (2147483648, 2147483656, 1, 0), (2147483648, 2147485249, 2, 0)]
def bn3021 : e2_Q6 := (bn1523, bn1639)
def bn3022 : e2_Q7 := (bn1521, bn3021)
def bn3023 : e2_Q8 := (bn1400, bn3022)
noncomputable def f_b505 : ev_H := (bn3023 : e2_Q8)
def bn3024 : e2_Q6 := (bn1530, bn1639)
def bn3025 : e2_Q7 := (bn1528, bn3024)
def bn3026 : e2_Q8 := (bn1414, bn3025)
noncomputable def q_b505_0 : ev_H := (bn3026 : e2_Q8)
def bn3027 : e2_Q6 := (bn1535, bn1639)
def bn3028 : e2_Q7 := (bn1521, bn3027)
def bn3029 : e2_Q8 := (bn1414, bn3028)
noncomputable def q_b505_1 : ev_H := (bn3029 : e2_Q8)
def bn3030 : e2_Q6 := (bn1540, bn1639)
def bn3031 : e2_Q7 := (bn1528, bn3030)
def bn3032 : e2_Q8 := (bn1414, bn3031)
noncomputable def q_b505_2 : ev_H := (bn3032 : e2_Q8)
def bn3033 : e2_Q6 := (bn1545, bn1639)
def bn3034 : e2_Q7 := (bn1528, bn3033)
def bn3035 : e2_Q8 := (bn1414, bn3034)
noncomputable def q_b505_3 : ev_H := (bn3035 : e2_Q8)
def bn3036 : e2_Q6 := (bn1550, bn1639)
def bn3037 : e2_Q7 := (bn1528, bn3036)
def bn3038 : e2_Q8 := (bn1414, bn3037)
noncomputable def q_b505_4 : ev_H := (bn3038 : e2_Q8)
def bn3039 : e2_Q6 := (bn1555, bn1639)
def bn3040 : e2_Q7 := (bn1528, bn3039)
def bn3041 : e2_Q8 := (bn1414, bn3040)
noncomputable def q_b505_5 : ev_H := (bn3041 : e2_Q8)
def bn3042 : e2_Q6 := (bn1560, bn1639)
def bn3043 : e2_Q7 := (bn1528, bn3042)
def bn3044 : e2_Q8 := (bn1414, bn3043)
noncomputable def q_b505_6 : ev_H := (bn3044 : e2_Q8)
def bn3045 : e2_Q6 := (bn1565, bn1639)
def bn3046 : e2_Q7 := (bn1528, bn3045)
def bn3047 : e2_Q8 := (bn1414, bn3046)
noncomputable def q_b505_7 : ev_H := (bn3047 : e2_Q8)
def bn3048 : e2_Q7 := (bn1528, bn2970)
def bn3049 : e2_Q8 := (bn1414, bn3048)
noncomputable def q_b505_8 : ev_H := (bn3049 : e2_Q8)
def bn3050 : e2_Q7 := (bn1528, bn2997)
def bn3051 : e2_Q8 := (bn1414, bn3050)
noncomputable def q_b505_9 : ev_H := (bn3051 : e2_Q8)
def bn3052 : e2_Q6 := (bn1574, bn1639)
def bn3053 : e2_Q7 := (bn1521, bn3052)
def bn3054 : e2_Q8 := (bn1414, bn3053)
noncomputable def q_b505_10 : ev_H := (bn3054 : e2_Q8)
noncomputable def rs_b505 : e2_Rs := [((9, 0, 0), q_b505_0), ((9, 0, 0), q_b505_1), ((9, 0, 0), q_b505_2), ((9, 0, 0), q_b505_3), ((9, 0, 0), q_b505_4), ((9, 0, 0), q_b505_5), ((9, 0, 0), q_b505_6), ((9, 0, 0), q_b505_7), ((9, 0, 0), q_b505_8), ((9, 0, 0), q_b505_9), ((9, 0, 0), q_b505_10)]
noncomputable def s_b505 : e2_Sm := (196, as_b505, E_b505, f_b505, rs_b505)
noncomputable def S_b505 : List e2_Sm := [s_b9, s_b10, s_b11, s_b12, s_b13, s_b14, s_b181, s_b183, s_b184, s_b186, s_b188, s_b190, s_b191, s_b192, s_b232, s_b233, s_b235, s_b236, s_b237, s_b238, s_b239, s_b240, s_b241, s_b242, s_b243, s_b244, s_b257, s_b278, s_b282, s_b284, s_b285, s_b286, s_b287, s_b288, s_b289, s_b290, s_b291, s_b292, s_b293, s_b294, s_b295, s_b337, s_b345, s_b347, s_b490, s_b496, s_b498, s_b499, s_b500, s_b501, s_b502, s_b503, s_b504]
noncomputable def I_b505 : List e2_In := [(179, 3, e2x_179)]
set_option maxRecDepth 1000000 in
theorem ck_b505 : e2_run (e2_cal S_b505 I_b505 4000 1) (e2_fin rs_b505) e2x_196 (fun _ => false) (fun _ _ _ _ _ => false) 4000 (e2_seek e2x_196 0) (e2_al 2 as_b505) [] E_b505 f_b505 = true := by decide +kernel
set_option maxRecDepth 1000000 in
theorem co_b505 : e2_okSB E_b505.length as_b505 f_b505 rs_b505 = true := by decide +kernel
theorem cs_b505 (hen : en_ok) (l : Launch) (hh : e2_hand_b l) : e2_smOk l 62 s_b505 := e2_con0 (H := 60) (n := 1) (C := evd_196) (S := S_b505) (I := I_b505) (fuel := 4000) [] hen ei_196 (e2_fa (hh _ hm_b9) (e2_fa (hh _ hm_b10) (e2_fa (hh _ hm_b11) (e2_fa (hh _ hm_b12) (e2_fa (hh _ hm_b13) (e2_fa (hh _ hm_b14) (e2_fa ((cs_b181 hen l).mono (by decide)) (e2_fa ((cs_b183 hen l).mono (by decide)) (e2_fa ((cs_b184 hen l).mono (by decide)) (e2_fa ((cs_b186 hen l).mono (by decide)) (e2_fa ((cs_b188 hen l).mono (by decide)) (e2_fa ((cs_b190 hen l).mono (by decide)) (e2_fa ((cs_b191 hen l).mono (by decide)) (e2_fa ((cs_b192 hen l).mono (by decide)) (e2_fa ((cs_b232 hen l).mono (by decide)) (e2_fa ((cs_b233 hen l).mono (by decide)) (e2_fa ((cs_b235 hen l).mono (by decide)) (e2_fa ((cs_b236 hen l).mono (by decide)) (e2_fa ((cs_b237 hen l).mono (by decide)) (e2_fa ((cs_b238 hen l).mono (by decide)) (e2_fa ((cs_b239 hen l).mono (by decide)) (e2_fa ((cs_b240 hen l).mono (by decide)) (e2_fa ((cs_b241 hen l).mono (by decide)) (e2_fa ((cs_b242 hen l).mono (by decide)) (e2_fa ((cs_b243 hen l).mono (by decide)) (e2_fa ((cs_b244 hen l).mono (by decide)) (e2_fa ((cs_b257 hen l).mono (by decide)) (e2_fa ((cs_b278 hen l).mono (by decide)) (e2_fa ((cs_b282 hen l).mono (by decide)) (e2_fa ((cs_b284 hen l).mono (by decide)) (e2_fa ((cs_b285 hen l).mono (by decide)) (e2_fa ((cs_b286 hen l).mono (by decide)) (e2_fa ((cs_b287 hen l).mono (by decide)) (e2_fa ((cs_b288 hen l).mono (by decide)) (e2_fa ((cs_b289 hen l).mono (by decide)) (e2_fa ((cs_b290 hen l).mono (by decide)) (e2_fa ((cs_b291 hen l).mono (by decide)) (e2_fa ((cs_b292 hen l).mono (by decide)) (e2_fa ((cs_b293 hen l).mono (by decide)) (e2_fa ((cs_b294 hen l).mono (by decide)) (e2_fa ((cs_b295 hen l).mono (by decide)) (e2_fa ((cs_b337 hen l).mono (by decide)) (e2_fa ((cs_b345 hen l).mono (by decide)) (e2_fa ((cs_b347 hen l).mono (by decide)) (e2_fa ((cs_b490 hen l).mono (by decide)) (e2_fa ((cs_b496 hen l).mono (by decide)) (e2_fa ((cs_b498 hen l).mono (by decide)) (e2_fa ((cs_b499 hen l).mono (by decide)) (e2_fa ((cs_b500 hen l).mono (by decide)) (e2_fa ((cs_b501 hen l).mono (by decide)) (e2_fa ((cs_b502 hen l).mono (by decide)) (e2_fa ((cs_b503 hen l).mono (by decide)) (e2_fa ((cs_b504 hen l).mono (by decide)) e2_fz))))))))))))))))))))))))))))))))))))))))))))))))))))) (e2_fa ein_179 e2_fz) (by decide) co_b505 ex2_196 ck_b505
/-! b506 X10_readLine -/
def as_b506 : List ev_V := [(2, 83, 0)]
def E_b506 : e2_E := [(2147483648, 2147583648, 0, 0), (2147483648, 2147483656, 1, 0), (2147483648, 2147485249, 2, 0)]
def bn3055 : e2_Q5 := (bn813, bn835)
def bn3056 : e2_Q6 := (bn1733, bn3055)
def bn3057 : e2_Q7 := (bn1730, bn3056)
def bn3058 : e2_Q8 := (bn1725, bn3057)
noncomputable def f_b506 : ev_H := (bn3058 : e2_Q8)
noncomputable def q_b506_0 : ev_H := (bn1745 : e2_Q8)
noncomputable def q_b506_1 : ev_H := (bn1750 : e2_Q8)
noncomputable def q_b506_2 : ev_H := (bn1754 : e2_Q8)
noncomputable def q_b506_3 : ev_H := (bn1758 : e2_Q8)
noncomputable def q_b506_4 : ev_H := (bn1762 : e2_Q8)
noncomputable def q_b506_5 : ev_H := (bn1766 : e2_Q8)
noncomputable def q_b506_6 : ev_H := (bn1770 : e2_Q8)
noncomputable def q_b506_7 : ev_H := (bn1774 : e2_Q8)
noncomputable def q_b506_8 : ev_H := (bn1778 : e2_Q8)
noncomputable def q_b506_9 : ev_H := (bn1782 : e2_Q8)
def bn3059 : e2_Q6 := (bn1783, bn3055)
def bn3060 : e2_Q7 := (bn1730, bn3059)
def bn3061 : e2_Q8 := (bn1725, bn3060)
noncomputable def q_b506_10 : ev_H := (bn3061 : e2_Q8)
def bn3062 : e2_Q6 := (bn1747, bn3055)
def bn3063 : e2_Q7 := (bn1730, bn3062)
def bn3064 : e2_Q8 := (bn1790, bn3063)
noncomputable def q_b506_11 : ev_H := (bn3064 : e2_Q8)
def bn3065 : e2_Q6 := (bn1751, bn3055)
def bn3066 : e2_Q7 := (bn1730, bn3065)
def bn3067 : e2_Q8 := (bn1790, bn3066)
noncomputable def q_b506_12 : ev_H := (bn3067 : e2_Q8)
def bn3068 : e2_Q6 := (bn1779, bn3055)
def bn3069 : e2_Q7 := (bn1730, bn3068)
def bn3070 : e2_Q8 := (bn1790, bn3069)
noncomputable def q_b506_13 : ev_H := (bn3070 : e2_Q8)
def bn3071 : e2_Q8 := (bn1790, bn3060)
noncomputable def q_b506_14 : ev_H := (bn3071 : e2_Q8)
def bn3072 : e2_Q6 := (bn1759, bn3055)
def bn3073 : e2_Q7 := (bn1796, bn3072)
def bn3074 : e2_Q8 := (bn1790, bn3073)
noncomputable def q_b506_15 : ev_H := (bn3074 : e2_Q8)
def bn3075 : e2_Q6 := (bn1763, bn3055)
def bn3076 : e2_Q7 := (bn1796, bn3075)
def bn3077 : e2_Q8 := (bn1790, bn3076)
noncomputable def q_b506_16 : ev_H := (bn3077 : e2_Q8)
def bn3078 : e2_Q6 := (bn1767, bn3055)
def bn3079 : e2_Q7 := (bn1796, bn3078)
def bn3080 : e2_Q8 := (bn1790, bn3079)
noncomputable def q_b506_17 : ev_H := (bn3080 : e2_Q8)
def bn3081 : e2_Q6 := (bn1771, bn3055)
def bn3082 : e2_Q7 := (bn1796, bn3081)
def bn3083 : e2_Q8 := (bn1790, bn3082)
noncomputable def q_b506_18 : ev_H := (bn3083 : e2_Q8)
def bn3084 : e2_Q6 := (bn1775, bn3055)
def bn3085 : e2_Q7 := (bn1796, bn3084)
def bn3086 : e2_Q8 := (bn1790, bn3085)
noncomputable def q_b506_19 : ev_H := (bn3086 : e2_Q8)
def bn3087 : e2_Q6 := (bn1807, bn3055)
def bn3088 : e2_Q7 := (bn1730, bn3087)
def bn3089 : e2_Q8 := (bn1790, bn3088)
noncomputable def q_b506_20 : ev_H := (bn3089 : e2_Q8)
def bn3090 : e2_Q6 := (bn1755, bn3055)
def bn3091 : e2_Q7 := (bn1730, bn3090)
def bn3092 : e2_Q8 := (bn1790, bn3091)
noncomputable def q_b506_21 : ev_H := (bn3092 : e2_Q8)
noncomputable def rs_b506 : e2_Rs := [((9, 0, 0), q_b506_0), ((9, 0, 0), q_b506_1), ((9, 0, 0), q_b506_2), ((9, 0, 0), q_b506_3), ((9, 0, 0), q_b506_4), ((9, 0, 0), q_b506_5), ((9, 0, 0), q_b506_6), ((9, 0, 0), q_b506_7), ((9, 0, 0), q_b506_8), ((9, 0, 0), q_b506_9), ((9, 0, 0), q_b506_10), ((9, 0, 0), q_b506_11), ((9, 0, 0), q_b506_12), ((9, 0, 0), q_b506_13), ((9, 0, 0), q_b506_14), ((9, 0, 0), q_b506_15), ((9, 0, 0), q_b506_16), ((9, 0, 0), q_b506_17), ((9, 0, 0), q_b506_18), ((9, 0, 0), q_b506_19), ((9, 0, 0), q_b506_20), ((9, 0, 0), q_b506_21)]
noncomputable def s_b506 : e2_Sm := (187, as_b506, E_b506, f_b506, rs_b506)
noncomputable def S_b506 : List e2_Sm := [s_b173, s_b178, s_b179, s_b180, s_b181, s_b182, s_b183, s_b184, s_b185, s_b186, s_b187, s_b188, s_b189, s_b190, s_b191, s_b192, s_b193, s_b194, s_b195, s_b196, s_b197, s_b198, s_b199, s_b217, s_b218, s_b219, s_b220, s_b221, s_b249, s_b250, s_b251, s_b252, s_b253, s_b317, s_b319, s_b321, s_b322, s_b331, s_b332, s_b333, s_b334, s_b335, s_b336, s_b338, s_b341, s_b344, s_b346, s_b348, s_b491, s_b493, s_b495, s_b497, s_b505]
noncomputable def I_b506 : List e2_In := [(170, 2, e2x_170), (173, 3, e2x_173), (174, 1, e2x_174), (178, 2, e2x_178), (179, 3, e2x_179), (180, 1, e2x_180), (186, 1, e2x_186)]
set_option maxRecDepth 1000000 in
theorem ck_b506 : e2_run (e2_cal S_b506 I_b506 4000 2) (e2_fin rs_b506) e2x_187 (fun _ => false) (fun _ _ _ _ _ => false) 4000 (e2_seek e2x_187 0) (e2_al 3 as_b506) [] E_b506 f_b506 = true := by decide +kernel
set_option maxRecDepth 1000000 in
theorem co_b506 : e2_okSB E_b506.length as_b506 f_b506 rs_b506 = true := by decide +kernel
theorem cs_b506 (hen : en_ok) (l : Launch) (hh : e2_hand_b l) : e2_smOk l 65 s_b506 := e2_con0 (H := 62) (n := 2) (C := evd_187) (S := S_b506) (I := I_b506) (fuel := 4000) [] hen ei_187 (e2_fa ((cs_b173 hen l).mono (by decide)) (e2_fa ((cs_b178 hen l).mono (by decide)) (e2_fa ((cs_b179 hen l).mono (by decide)) (e2_fa ((cs_b180 hen l).mono (by decide)) (e2_fa ((cs_b181 hen l).mono (by decide)) (e2_fa ((cs_b182 hen l).mono (by decide)) (e2_fa ((cs_b183 hen l).mono (by decide)) (e2_fa ((cs_b184 hen l).mono (by decide)) (e2_fa ((cs_b185 hen l).mono (by decide)) (e2_fa ((cs_b186 hen l).mono (by decide)) (e2_fa ((cs_b187 hen l).mono (by decide)) (e2_fa ((cs_b188 hen l).mono (by decide)) (e2_fa ((cs_b189 hen l).mono (by decide)) (e2_fa ((cs_b190 hen l).mono (by decide)) (e2_fa ((cs_b191 hen l).mono (by decide)) (e2_fa ((cs_b192 hen l).mono (by decide)) (e2_fa ((cs_b193 hen l).mono (by decide)) (e2_fa ((cs_b194 hen l).mono (by decide)) (e2_fa ((cs_b195 hen l).mono (by decide)) (e2_fa ((cs_b196 hen l).mono (by decide)) (e2_fa ((cs_b197 hen l).mono (by decide)) (e2_fa ((cs_b198 hen l).mono (by decide)) (e2_fa ((cs_b199 hen l).mono (by decide)) (e2_fa ((cs_b217 hen l).mono (by decide)) (e2_fa ((cs_b218 hen l).mono (by decide)) (e2_fa ((cs_b219 hen l).mono (by decide)) (e2_fa ((cs_b220 hen l).mono (by decide)) (e2_fa ((cs_b221 hen l).mono (by decide)) (e2_fa ((cs_b249 hen l).mono (by decide)) (e2_fa ((cs_b250 hen l).mono (by decide)) (e2_fa ((cs_b251 hen l).mono (by decide)) (e2_fa ((cs_b252 hen l).mono (by decide)) (e2_fa ((cs_b253 hen l).mono (by decide)) (e2_fa ((cs_b317 hen l).mono (by decide)) (e2_fa ((cs_b319 hen l).mono (by decide)) (e2_fa ((cs_b321 hen l).mono (by decide)) (e2_fa ((cs_b322 hen l).mono (by decide)) (e2_fa ((cs_b331 hen l).mono (by decide)) (e2_fa ((cs_b332 hen l hh).mono (by decide)) (e2_fa ((cs_b333 hen l hh).mono (by decide)) (e2_fa ((cs_b334 hen l hh).mono (by decide)) (e2_fa ((cs_b335 hen l hh).mono (by decide)) (e2_fa ((cs_b336 hen l hh).mono (by decide)) (e2_fa ((cs_b338 hen l).mono (by decide)) (e2_fa ((cs_b341 hen l).mono (by decide)) (e2_fa ((cs_b344 hen l).mono (by decide)) (e2_fa ((cs_b346 hen l).mono (by decide)) (e2_fa ((cs_b348 hen l).mono (by decide)) (e2_fa (cs_b491 hen l hh) (e2_fa (cs_b493 hen l hh) (e2_fa (cs_b495 hen l hh) (e2_fa (cs_b497 hen l hh) (e2_fa (cs_b505 hen l hh) e2_fz))))))))))))))))))))))))))))))))))))))))))))))))))))) (e2_fa ein_170 (e2_fa ein_173 (e2_fa ein_174 (e2_fa ein_178 (e2_fa ein_179 (e2_fa ein_180 (e2_fa ein_186 e2_fz))))))) (by decide) co_b506 ex2_187 ck_b506
/-! b507 X10_readGlyph -/
def as_b507 : List ev_V := [(2, 83, 0)]
def E_b507 : e2_E := [(2147483648, 2147583648, 0, 0), (2147483648, 2147483656, 1, 0), (2147483648, 2147485249, 2, 0)]
def bn3093 : e2_Q7 := (bn407, bn2967)
def bn3094 : e2_Q8 := (bn1414, bn3093)
noncomputable def f_b507 : ev_H := (bn3094 : e2_Q8)
def bn3095 : e2_Q7 := (bn407, bn2970)
def bn3096 : e2_Q8 := (bn1824, bn3095)
noncomputable def q_b507_0 : ev_H := (bn3096 : e2_Q8)
noncomputable def rs_b507 : e2_Rs := [((9, 0, 0), q_b507_0)]
noncomputable def s_b507 : e2_Sm := (196, as_b507, E_b507, f_b507, rs_b507)
noncomputable def S_b507 : List e2_Sm := [s_b27, s_b179, s_b233, s_b254, s_b257, s_b350, s_b490]
noncomputable def I_b507 : List e2_In := [(179, 3, e2x_179)]
set_option maxRecDepth 1000000 in
theorem ck_b507 : e2_run (e2_cal S_b507 I_b507 4000 1) (e2_fin rs_b507) e2x_196 (fun _ => false) (fun _ _ _ _ _ => false) 4000 (e2_seek e2x_196 0) (e2_al 2 as_b507) [] E_b507 f_b507 = true := by decide +kernel
set_option maxRecDepth 1000000 in
theorem co_b507 : e2_okSB E_b507.length as_b507 f_b507 rs_b507 = true := by decide +kernel
theorem cs_b507 (hen : en_ok) (l : Launch) (hh : e2_hand_b l) : e2_smOk l 62 s_b507 := e2_con0 (H := 60) (n := 1) (C := evd_196) (S := S_b507) (I := I_b507) (fuel := 4000) [] hen ei_196 (e2_fa (hh _ hm_b27) (e2_fa ((cs_b179 hen l).mono (by decide)) (e2_fa ((cs_b233 hen l).mono (by decide)) (e2_fa ((cs_b254 hen l).mono (by decide)) (e2_fa ((cs_b257 hen l).mono (by decide)) (e2_fa ((cs_b350 hen l).mono (by decide)) (e2_fa ((cs_b490 hen l).mono (by decide)) e2_fz))))))) (e2_fa ein_179 e2_fz) (by decide) co_b507 ex2_196 ck_b507
/-! b508 X10_readGlyph -/
def as_b508 : List ev_V := [(2, 83, 0)]
def E_b508 : e2_E := [(2147483648, 2147583648, 0, 0), (2147483648, 2147483656, 1, 0), (2147483648, 2147485249, 2, 0)]
def bn3097 : e2_Q7 := (bn407, bn2976)
def bn3098 : e2_Q8 := (bn1414, bn3097)
noncomputable def f_b508 : ev_H := (bn3098 : e2_Q8)
def bn3099 : e2_Q7 := (bn407, bn2979)
def bn3100 : e2_Q8 := (bn1824, bn3099)
noncomputable def q_b508_0 : ev_H := (bn3100 : e2_Q8)
noncomputable def rs_b508 : e2_Rs := [((9, 0, 0), q_b508_0)]
noncomputable def s_b508 : e2_Sm := (196, as_b508, E_b508, f_b508, rs_b508)
noncomputable def S_b508 : List e2_Sm := [s_b35, s_b187, s_b245, s_b261, s_b264, s_b352, s_b492]
noncomputable def I_b508 : List e2_In := [(179, 3, e2x_179)]
set_option maxRecDepth 1000000 in
theorem ck_b508 : e2_run (e2_cal S_b508 I_b508 4000 1) (e2_fin rs_b508) e2x_196 (fun _ => false) (fun _ _ _ _ _ => false) 4000 (e2_seek e2x_196 0) (e2_al 2 as_b508) [] E_b508 f_b508 = true := by decide +kernel
set_option maxRecDepth 1000000 in
theorem co_b508 : e2_okSB E_b508.length as_b508 f_b508 rs_b508 = true := by decide +kernel
theorem cs_b508 (hen : en_ok) (l : Launch) (hh : e2_hand_b l) : e2_smOk l 62 s_b508 := e2_con0 (H := 60) (n := 1) (C := evd_196) (S := S_b508) (I := I_b508) (fuel := 4000) [] hen ei_196 (e2_fa (hh _ hm_b35) (e2_fa ((cs_b187 hen l).mono (by decide)) (e2_fa ((cs_b245 hen l).mono (by decide)) (e2_fa ((cs_b261 hen l).mono (by decide)) (e2_fa ((cs_b264 hen l).mono (by decide)) (e2_fa ((cs_b352 hen l).mono (by decide)) (e2_fa ((cs_b492 hen l).mono (by decide)) e2_fz))))))) (e2_fa ein_179 e2_fz) (by decide) co_b508 ex2_196 ck_b508
/-! b509 X10_readGlyph -/
def as_b509 : List ev_V := [(2, 83, 0)]
def E_b509 : e2_E := [(2147483648, 2147583648, 0, 0), (2147483648, 2147483656, 1, 0), (2147483648, 2147485249, 2, 0)]
def bn3101 : e2_Q7 := (bn407, bn2985)
def bn3102 : e2_Q8 := (bn1414, bn3101)
noncomputable def f_b509 : ev_H := (bn3102 : e2_Q8)
def bn3103 : e2_Q7 := (bn407, bn2988)
def bn3104 : e2_Q8 := (bn1824, bn3103)
noncomputable def q_b509_0 : ev_H := (bn3104 : e2_Q8)
noncomputable def rs_b509 : e2_Rs := [((9, 0, 0), q_b509_0)]
noncomputable def s_b509 : e2_Sm := (196, as_b509, E_b509, f_b509, rs_b509)
noncomputable def S_b509 : List e2_Sm := [s_b28, s_b185, s_b234, s_b268, s_b271, s_b354, s_b494]
noncomputable def I_b509 : List e2_In := [(179, 3, e2x_179)]
set_option maxRecDepth 1000000 in
theorem ck_b509 : e2_run (e2_cal S_b509 I_b509 4000 1) (e2_fin rs_b509) e2x_196 (fun _ => false) (fun _ _ _ _ _ => false) 4000 (e2_seek e2x_196 0) (e2_al 2 as_b509) [] E_b509 f_b509 = true := by decide +kernel
set_option maxRecDepth 1000000 in
theorem co_b509 : e2_okSB E_b509.length as_b509 f_b509 rs_b509 = true := by decide +kernel
theorem cs_b509 (hen : en_ok) (l : Launch) (hh : e2_hand_b l) : e2_smOk l 62 s_b509 := e2_con0 (H := 60) (n := 1) (C := evd_196) (S := S_b509) (I := I_b509) (fuel := 4000) [] hen ei_196 (e2_fa (hh _ hm_b28) (e2_fa ((cs_b185 hen l).mono (by decide)) (e2_fa ((cs_b234 hen l).mono (by decide)) (e2_fa ((cs_b268 hen l).mono (by decide)) (e2_fa ((cs_b271 hen l).mono (by decide)) (e2_fa ((cs_b354 hen l).mono (by decide)) (e2_fa ((cs_b494 hen l).mono (by decide)) e2_fz))))))) (e2_fa ein_179 e2_fz) (by decide) co_b509 ex2_196 ck_b509
/-! b510 X10_readGlyph -/
def as_b510 : List ev_V := [(2, 83, 0)]
def E_b510 : e2_E := [(2147483648, 2147583648, 0, 0), (2147483648, 2147483656, 1, 0), (2147483648, 2147485249, 2, 0)]
def bn3105 : e2_Q7 := (bn407, bn2994)
def bn3106 : e2_Q8 := (bn1414, bn3105)
noncomputable def f_b510 : ev_H := (bn3106 : e2_Q8)
def bn3107 : e2_Q7 := (bn407, bn2997)
def bn3108 : e2_Q8 := (bn1824, bn3107)
noncomputable def q_b510_0 : ev_H := (bn3108 : e2_Q8)
noncomputable def rs_b510 : e2_Rs := [((9, 0, 0), q_b510_0)]
noncomputable def s_b510 : e2_Sm := (196, as_b510, E_b510, f_b510, rs_b510)
noncomputable def S_b510 : List e2_Sm := [s_b26, s_b178, s_b232, s_b275, s_b278, s_b356, s_b496]
noncomputable def I_b510 : List e2_In := [(179, 3, e2x_179)]
set_option maxRecDepth 1000000 in
theorem ck_b510 : e2_run (e2_cal S_b510 I_b510 4000 1) (e2_fin rs_b510) e2x_196 (fun _ => false) (fun _ _ _ _ _ => false) 4000 (e2_seek e2x_196 0) (e2_al 2 as_b510) [] E_b510 f_b510 = true := by decide +kernel
set_option maxRecDepth 1000000 in
theorem co_b510 : e2_okSB E_b510.length as_b510 f_b510 rs_b510 = true := by decide +kernel
theorem cs_b510 (hen : en_ok) (l : Launch) (hh : e2_hand_b l) : e2_smOk l 62 s_b510 := e2_con0 (H := 60) (n := 1) (C := evd_196) (S := S_b510) (I := I_b510) (fuel := 4000) [] hen ei_196 (e2_fa (hh _ hm_b26) (e2_fa ((cs_b178 hen l).mono (by decide)) (e2_fa ((cs_b232 hen l).mono (by decide)) (e2_fa ((cs_b275 hen l).mono (by decide)) (e2_fa ((cs_b278 hen l).mono (by decide)) (e2_fa ((cs_b356 hen l).mono (by decide)) (e2_fa ((cs_b496 hen l).mono (by decide)) e2_fz))))))) (e2_fa ein_179 e2_fz) (by decide) co_b510 ex2_196 ck_b510
/-! b511 X10_readGlyph -/
def as_b511 : List ev_V := [(2, 83, 0)]
def E_b511 : e2_E := [(2147483648, 2147583648, 0, 0), (2147483648, 2147483656, 1, 0), (2147483648, 2147485249, 2, 0)]
def bn3109 : e2_Q7 := (bn1528, bn3021)
def bn3110 : e2_Q8 := (bn1414, bn3109)
noncomputable def f_b511 : ev_H := (bn3110 : e2_Q8)
def bn3111 : e2_Q7 := (bn1847, bn3024)
def bn3112 : e2_Q8 := (bn1824, bn3111)
noncomputable def q_b511_0 : ev_H := (bn3112 : e2_Q8)
def bn3113 : e2_Q7 := (bn1528, bn3027)
def bn3114 : e2_Q8 := (bn1824, bn3113)
noncomputable def q_b511_1 : ev_H := (bn3114 : e2_Q8)
def bn3115 : e2_Q7 := (bn1847, bn3030)
def bn3116 : e2_Q8 := (bn1824, bn3115)
noncomputable def q_b511_2 : ev_H := (bn3116 : e2_Q8)
def bn3117 : e2_Q7 := (bn1847, bn3033)
def bn3118 : e2_Q8 := (bn1824, bn3117)
noncomputable def q_b511_3 : ev_H := (bn3118 : e2_Q8)
def bn3119 : e2_Q7 := (bn1847, bn3036)
def bn3120 : e2_Q8 := (bn1824, bn3119)
noncomputable def q_b511_4 : ev_H := (bn3120 : e2_Q8)
def bn3121 : e2_Q7 := (bn1847, bn3039)
def bn3122 : e2_Q8 := (bn1824, bn3121)
noncomputable def q_b511_5 : ev_H := (bn3122 : e2_Q8)
def bn3123 : e2_Q7 := (bn1847, bn3042)
def bn3124 : e2_Q8 := (bn1824, bn3123)
noncomputable def q_b511_6 : ev_H := (bn3124 : e2_Q8)
def bn3125 : e2_Q7 := (bn1847, bn3045)
def bn3126 : e2_Q8 := (bn1824, bn3125)
noncomputable def q_b511_7 : ev_H := (bn3126 : e2_Q8)
def bn3127 : e2_Q7 := (bn1847, bn2970)
def bn3128 : e2_Q8 := (bn1824, bn3127)
noncomputable def q_b511_8 : ev_H := (bn3128 : e2_Q8)
def bn3129 : e2_Q7 := (bn1847, bn2997)
def bn3130 : e2_Q8 := (bn1824, bn3129)
noncomputable def q_b511_9 : ev_H := (bn3130 : e2_Q8)
def bn3131 : e2_Q7 := (bn1528, bn3052)
def bn3132 : e2_Q8 := (bn1824, bn3131)
noncomputable def q_b511_10 : ev_H := (bn3132 : e2_Q8)
noncomputable def rs_b511 : e2_Rs := [((9, 0, 0), q_b511_0), ((9, 0, 0), q_b511_1), ((9, 0, 0), q_b511_2), ((9, 0, 0), q_b511_3), ((9, 0, 0), q_b511_4), ((9, 0, 0), q_b511_5), ((9, 0, 0), q_b511_6), ((9, 0, 0), q_b511_7), ((9, 0, 0), q_b511_8), ((9, 0, 0), q_b511_9), ((9, 0, 0), q_b511_10)]
noncomputable def s_b511 : e2_Sm := (196, as_b511, E_b511, f_b511, rs_b511)
noncomputable def S_b511 : List e2_Sm := [s_b29, s_b30, s_b31, s_b32, s_b33, s_b34, s_b181, s_b183, s_b184, s_b186, s_b188, s_b190, s_b191, s_b192, s_b232, s_b233, s_b235, s_b236, s_b237, s_b238, s_b239, s_b240, s_b241, s_b242, s_b243, s_b244, s_b257, s_b278, s_b282, s_b285, s_b286, s_b287, s_b288, s_b289, s_b290, s_b291, s_b292, s_b293, s_b294, s_b295, s_b337, s_b345, s_b347, s_b358, s_b490, s_b496, s_b498, s_b499, s_b500, s_b501, s_b502, s_b503, s_b504]
noncomputable def I_b511 : List e2_In := [(179, 3, e2x_179)]
set_option maxRecDepth 1000000 in
theorem ck_b511 : e2_run (e2_cal S_b511 I_b511 4000 1) (e2_fin rs_b511) e2x_196 (fun _ => false) (fun _ _ _ _ _ => false) 4000 (e2_seek e2x_196 0) (e2_al 2 as_b511) [] E_b511 f_b511 = true := by decide +kernel
set_option maxRecDepth 1000000 in
theorem co_b511 : e2_okSB E_b511.length as_b511 f_b511 rs_b511 = true := by decide +kernel
theorem cs_b511 (hen : en_ok) (l : Launch) (hh : e2_hand_b l) : e2_smOk l 62 s_b511 := e2_con0 (H := 60) (n := 1) (C := evd_196) (S := S_b511) (I := I_b511) (fuel := 4000) [] hen ei_196 (e2_fa (hh _ hm_b29) (e2_fa (hh _ hm_b30) (e2_fa (hh _ hm_b31) (e2_fa (hh _ hm_b32) (e2_fa (hh _ hm_b33) (e2_fa (hh _ hm_b34) (e2_fa ((cs_b181 hen l).mono (by decide)) (e2_fa ((cs_b183 hen l).mono (by decide)) (e2_fa ((cs_b184 hen l).mono (by decide)) (e2_fa ((cs_b186 hen l).mono (by decide)) (e2_fa ((cs_b188 hen l).mono (by decide)) (e2_fa ((cs_b190 hen l).mono (by decide)) (e2_fa ((cs_b191 hen l).mono (by decide)) (e2_fa ((cs_b192 hen l).mono (by decide)) (e2_fa ((cs_b232 hen l).mono (by decide)) (e2_fa ((cs_b233 hen l).mono (by decide)) (e2_fa ((cs_b235 hen l).mono (by decide)) (e2_fa ((cs_b236 hen l).mono (by decide)) (e2_fa ((cs_b237 hen l).mono (by decide)) (e2_fa ((cs_b238 hen l).mono (by decide)) (e2_fa ((cs_b239 hen l).mono (by decide)) (e2_fa ((cs_b240 hen l).mono (by decide)) (e2_fa ((cs_b241 hen l).mono (by decide)) (e2_fa ((cs_b242 hen l).mono (by decide)) (e2_fa ((cs_b243 hen l).mono (by decide)) (e2_fa ((cs_b244 hen l).mono (by decide)) (e2_fa ((cs_b257 hen l).mono (by decide)) (e2_fa ((cs_b278 hen l).mono (by decide)) (e2_fa ((cs_b282 hen l).mono (by decide)) (e2_fa ((cs_b285 hen l).mono (by decide)) (e2_fa ((cs_b286 hen l).mono (by decide)) (e2_fa ((cs_b287 hen l).mono (by decide)) (e2_fa ((cs_b288 hen l).mono (by decide)) (e2_fa ((cs_b289 hen l).mono (by decide)) (e2_fa ((cs_b290 hen l).mono (by decide)) (e2_fa ((cs_b291 hen l).mono (by decide)) (e2_fa ((cs_b292 hen l).mono (by decide)) (e2_fa ((cs_b293 hen l).mono (by decide)) (e2_fa ((cs_b294 hen l).mono (by decide)) (e2_fa ((cs_b295 hen l).mono (by decide)) (e2_fa ((cs_b337 hen l).mono (by decide)) (e2_fa ((cs_b345 hen l).mono (by decide)) (e2_fa ((cs_b347 hen l).mono (by decide)) (e2_fa ((cs_b358 hen l).mono (by decide)) (e2_fa ((cs_b490 hen l).mono (by decide)) (e2_fa ((cs_b496 hen l).mono (by decide)) (e2_fa ((cs_b498 hen l).mono (by decide)) (e2_fa ((cs_b499 hen l).mono (by decide)) (e2_fa ((cs_b500 hen l).mono (by decide)) (e2_fa ((cs_b501 hen l).mono (by decide)) (e2_fa ((cs_b502 hen l).mono (by decide)) (e2_fa ((cs_b503 hen l).mono (by decide)) (e2_fa ((cs_b504 hen l).mono (by decide)) e2_fz))))))))))))))))))))))))))))))))))))))))))))))))))))) (e2_fa ein_179 e2_fz) (by decide) co_b511 ex2_196 ck_b511
/-! b512 X10_readLine -/
def as_b512 : List ev_V := [(2, 83, 0)]
def E_b512 : e2_E := [(2147483648, 2147583648, 0, 0), (2147483648, 2147483656, 1, 0), (2147483648, 2147485249, 2, 0)]
def bn3133 : e2_Q7 := (bn1796, bn3056)
def bn3134 : e2_Q8 := (bn1790, bn3133)
noncomputable def f_b512 : ev_H := (bn3134 : e2_Q8)
noncomputable def q_b512_0 : ev_H := (bn1892 : e2_Q8)
noncomputable def q_b512_1 : ev_H := (bn1894 : e2_Q8)
noncomputable def q_b512_2 : ev_H := (bn1896 : e2_Q8)
noncomputable def q_b512_3 : ev_H := (bn1898 : e2_Q8)
noncomputable def q_b512_4 : ev_H := (bn1798 : e2_Q8)
noncomputable def q_b512_5 : ev_H := (bn1800 : e2_Q8)
noncomputable def q_b512_6 : ev_H := (bn1802 : e2_Q8)
noncomputable def q_b512_7 : ev_H := (bn1804 : e2_Q8)
noncomputable def q_b512_8 : ev_H := (bn1806 : e2_Q8)
noncomputable def q_b512_9 : ev_H := (bn1900 : e2_Q8)
def bn3135 : e2_Q7 := (bn1796, bn3059)
def bn3136 : e2_Q8 := (bn1790, bn3135)
noncomputable def q_b512_10 : ev_H := (bn3136 : e2_Q8)
def bn3137 : e2_Q7 := (bn1796, bn3062)
def bn3138 : e2_Q8 := (bn1906, bn3137)
noncomputable def q_b512_11 : ev_H := (bn3138 : e2_Q8)
def bn3139 : e2_Q7 := (bn1796, bn3065)
def bn3140 : e2_Q8 := (bn1906, bn3139)
noncomputable def q_b512_12 : ev_H := (bn3140 : e2_Q8)
def bn3141 : e2_Q7 := (bn1796, bn3068)
def bn3142 : e2_Q8 := (bn1906, bn3141)
noncomputable def q_b512_13 : ev_H := (bn3142 : e2_Q8)
def bn3143 : e2_Q8 := (bn1906, bn3135)
noncomputable def q_b512_14 : ev_H := (bn3143 : e2_Q8)
def bn3144 : e2_Q7 := (bn1912, bn3072)
def bn3145 : e2_Q8 := (bn1906, bn3144)
noncomputable def q_b512_15 : ev_H := (bn3145 : e2_Q8)
def bn3146 : e2_Q7 := (bn1912, bn3075)
def bn3147 : e2_Q8 := (bn1906, bn3146)
noncomputable def q_b512_16 : ev_H := (bn3147 : e2_Q8)
def bn3148 : e2_Q7 := (bn1912, bn3078)
def bn3149 : e2_Q8 := (bn1906, bn3148)
noncomputable def q_b512_17 : ev_H := (bn3149 : e2_Q8)
def bn3150 : e2_Q7 := (bn1912, bn3081)
def bn3151 : e2_Q8 := (bn1906, bn3150)
noncomputable def q_b512_18 : ev_H := (bn3151 : e2_Q8)
def bn3152 : e2_Q7 := (bn1912, bn3084)
def bn3153 : e2_Q8 := (bn1906, bn3152)
noncomputable def q_b512_19 : ev_H := (bn3153 : e2_Q8)
def bn3154 : e2_Q7 := (bn1796, bn3087)
def bn3155 : e2_Q8 := (bn1906, bn3154)
noncomputable def q_b512_20 : ev_H := (bn3155 : e2_Q8)
def bn3156 : e2_Q7 := (bn1796, bn3090)
def bn3157 : e2_Q8 := (bn1906, bn3156)
noncomputable def q_b512_21 : ev_H := (bn3157 : e2_Q8)
noncomputable def rs_b512 : e2_Rs := [((9, 0, 0), q_b512_0), ((9, 0, 0), q_b512_1), ((9, 0, 0), q_b512_2), ((9, 0, 0), q_b512_3), ((9, 0, 0), q_b512_4), ((9, 0, 0), q_b512_5), ((9, 0, 0), q_b512_6), ((9, 0, 0), q_b512_7), ((9, 0, 0), q_b512_8), ((9, 0, 0), q_b512_9), ((9, 0, 0), q_b512_10), ((9, 0, 0), q_b512_11), ((9, 0, 0), q_b512_12), ((9, 0, 0), q_b512_13), ((9, 0, 0), q_b512_14), ((9, 0, 0), q_b512_15), ((9, 0, 0), q_b512_16), ((9, 0, 0), q_b512_17), ((9, 0, 0), q_b512_18), ((9, 0, 0), q_b512_19), ((9, 0, 0), q_b512_20), ((9, 0, 0), q_b512_21)]
noncomputable def s_b512 : e2_Sm := (187, as_b512, E_b512, f_b512, rs_b512)
noncomputable def S_b512 : List e2_Sm := [s_b173, s_b178, s_b179, s_b180, s_b181, s_b182, s_b183, s_b184, s_b185, s_b186, s_b187, s_b188, s_b189, s_b190, s_b191, s_b192, s_b193, s_b194, s_b195, s_b196, s_b197, s_b198, s_b199, s_b217, s_b218, s_b219, s_b220, s_b221, s_b249, s_b250, s_b251, s_b252, s_b253, s_b332, s_b333, s_b334, s_b335, s_b336, s_b338, s_b341, s_b344, s_b346, s_b348, s_b360, s_b361, s_b362, s_b363, s_b366, s_b507, s_b508, s_b509, s_b510, s_b511]
noncomputable def I_b512 : List e2_In := [(170, 2, e2x_170), (173, 3, e2x_173), (174, 1, e2x_174), (178, 2, e2x_178), (179, 3, e2x_179), (180, 1, e2x_180), (186, 1, e2x_186)]
set_option maxRecDepth 1000000 in
theorem ck_b512 : e2_run (e2_cal S_b512 I_b512 4000 2) (e2_fin rs_b512) e2x_187 (fun _ => false) (fun _ _ _ _ _ => false) 4000 (e2_seek e2x_187 0) (e2_al 3 as_b512) [] E_b512 f_b512 = true := by decide +kernel
set_option maxRecDepth 1000000 in
theorem co_b512 : e2_okSB E_b512.length as_b512 f_b512 rs_b512 = true := by decide +kernel
theorem cs_b512 (hen : en_ok) (l : Launch) (hh : e2_hand_b l) : e2_smOk l 65 s_b512 := e2_con0 (H := 62) (n := 2) (C := evd_187) (S := S_b512) (I := I_b512) (fuel := 4000) [] hen ei_187 (e2_fa ((cs_b173 hen l).mono (by decide)) (e2_fa ((cs_b178 hen l).mono (by decide)) (e2_fa ((cs_b179 hen l).mono (by decide)) (e2_fa ((cs_b180 hen l).mono (by decide)) (e2_fa ((cs_b181 hen l).mono (by decide)) (e2_fa ((cs_b182 hen l).mono (by decide)) (e2_fa ((cs_b183 hen l).mono (by decide)) (e2_fa ((cs_b184 hen l).mono (by decide)) (e2_fa ((cs_b185 hen l).mono (by decide)) (e2_fa ((cs_b186 hen l).mono (by decide)) (e2_fa ((cs_b187 hen l).mono (by decide)) (e2_fa ((cs_b188 hen l).mono (by decide)) (e2_fa ((cs_b189 hen l).mono (by decide)) (e2_fa ((cs_b190 hen l).mono (by decide)) (e2_fa ((cs_b191 hen l).mono (by decide)) (e2_fa ((cs_b192 hen l).mono (by decide)) (e2_fa ((cs_b193 hen l).mono (by decide)) (e2_fa ((cs_b194 hen l).mono (by decide)) (e2_fa ((cs_b195 hen l).mono (by decide)) (e2_fa ((cs_b196 hen l).mono (by decide)) (e2_fa ((cs_b197 hen l).mono (by decide)) (e2_fa ((cs_b198 hen l).mono (by decide)) (e2_fa ((cs_b199 hen l).mono (by decide)) (e2_fa ((cs_b217 hen l).mono (by decide)) (e2_fa ((cs_b218 hen l).mono (by decide)) (e2_fa ((cs_b219 hen l).mono (by decide)) (e2_fa ((cs_b220 hen l).mono (by decide)) (e2_fa ((cs_b221 hen l).mono (by decide)) (e2_fa ((cs_b249 hen l).mono (by decide)) (e2_fa ((cs_b250 hen l).mono (by decide)) (e2_fa ((cs_b251 hen l).mono (by decide)) (e2_fa ((cs_b252 hen l).mono (by decide)) (e2_fa ((cs_b253 hen l).mono (by decide)) (e2_fa ((cs_b332 hen l hh).mono (by decide)) (e2_fa ((cs_b333 hen l hh).mono (by decide)) (e2_fa ((cs_b334 hen l hh).mono (by decide)) (e2_fa ((cs_b335 hen l hh).mono (by decide)) (e2_fa ((cs_b336 hen l hh).mono (by decide)) (e2_fa ((cs_b338 hen l).mono (by decide)) (e2_fa ((cs_b341 hen l).mono (by decide)) (e2_fa ((cs_b344 hen l).mono (by decide)) (e2_fa ((cs_b346 hen l).mono (by decide)) (e2_fa ((cs_b348 hen l).mono (by decide)) (e2_fa ((cs_b360 hen l).mono (by decide)) (e2_fa ((cs_b361 hen l).mono (by decide)) (e2_fa ((cs_b362 hen l).mono (by decide)) (e2_fa ((cs_b363 hen l).mono (by decide)) (e2_fa ((cs_b366 hen l).mono (by decide)) (e2_fa (cs_b507 hen l hh) (e2_fa (cs_b508 hen l hh) (e2_fa (cs_b509 hen l hh) (e2_fa (cs_b510 hen l hh) (e2_fa (cs_b511 hen l hh) e2_fz))))))))))))))))))))))))))))))))))))))))))))))))))))) (e2_fa ein_170 (e2_fa ein_173 (e2_fa ein_174 (e2_fa ein_178 (e2_fa ein_179 (e2_fa ein_180 (e2_fa ein_186 e2_fz))))))) (by decide) co_b512 ex2_187 ck_b512
/-! b513 X10_readGlyph -/
def as_b513 : List ev_V := [(2, 83, 0)]
def E_b513 : e2_E := [(2147483648, 2147583648, 0, 0), (2147483648, 2147483656, 1, 0), (2147483648, 2147485249, 2, 0)]
def bn3158 : e2_Q7 := (bn485, bn2967)
def bn3159 : e2_Q8 := (bn1824, bn3158)
noncomputable def f_b513 : ev_H := (bn3159 : e2_Q8)
def bn3160 : e2_Q7 := (bn485, bn2970)
def bn3161 : e2_Q8 := (bn1938, bn3160)
noncomputable def q_b513_0 : ev_H := (bn3161 : e2_Q8)
noncomputable def rs_b513 : e2_Rs := [((9, 0, 0), q_b513_0)]
noncomputable def s_b513 : e2_Sm := (196, as_b513, E_b513, f_b513, rs_b513)
noncomputable def S_b513 : List e2_Sm := [s_b47, s_b179, s_b233, s_b254, s_b257, s_b368, s_b490]
noncomputable def I_b513 : List e2_In := [(179, 3, e2x_179)]
set_option maxRecDepth 1000000 in
theorem ck_b513 : e2_run (e2_cal S_b513 I_b513 4000 1) (e2_fin rs_b513) e2x_196 (fun _ => false) (fun _ _ _ _ _ => false) 4000 (e2_seek e2x_196 0) (e2_al 2 as_b513) [] E_b513 f_b513 = true := by decide +kernel
set_option maxRecDepth 1000000 in
theorem co_b513 : e2_okSB E_b513.length as_b513 f_b513 rs_b513 = true := by decide +kernel
theorem cs_b513 (hen : en_ok) (l : Launch) (hh : e2_hand_b l) : e2_smOk l 62 s_b513 := e2_con0 (H := 60) (n := 1) (C := evd_196) (S := S_b513) (I := I_b513) (fuel := 4000) [] hen ei_196 (e2_fa (hh _ hm_b47) (e2_fa ((cs_b179 hen l).mono (by decide)) (e2_fa ((cs_b233 hen l).mono (by decide)) (e2_fa ((cs_b254 hen l).mono (by decide)) (e2_fa ((cs_b257 hen l).mono (by decide)) (e2_fa ((cs_b368 hen l).mono (by decide)) (e2_fa ((cs_b490 hen l).mono (by decide)) e2_fz))))))) (e2_fa ein_179 e2_fz) (by decide) co_b513 ex2_196 ck_b513
/-! b514 X10_readGlyph -/
def as_b514 : List ev_V := [(2, 83, 0)]
def E_b514 : e2_E := [(2147483648, 2147583648, 0, 0), (2147483648, 2147483656, 1, 0), (2147483648, 2147485249, 2, 0)]
def bn3162 : e2_Q7 := (bn485, bn2976)
def bn3163 : e2_Q8 := (bn1824, bn3162)
noncomputable def f_b514 : ev_H := (bn3163 : e2_Q8)
def bn3164 : e2_Q7 := (bn485, bn2979)
def bn3165 : e2_Q8 := (bn1938, bn3164)
noncomputable def q_b514_0 : ev_H := (bn3165 : e2_Q8)
noncomputable def rs_b514 : e2_Rs := [((9, 0, 0), q_b514_0)]
noncomputable def s_b514 : e2_Sm := (196, as_b514, E_b514, f_b514, rs_b514)
noncomputable def S_b514 : List e2_Sm := [s_b55, s_b187, s_b245, s_b261, s_b264, s_b370, s_b492]
noncomputable def I_b514 : List e2_In := [(179, 3, e2x_179)]
set_option maxRecDepth 1000000 in
theorem ck_b514 : e2_run (e2_cal S_b514 I_b514 4000 1) (e2_fin rs_b514) e2x_196 (fun _ => false) (fun _ _ _ _ _ => false) 4000 (e2_seek e2x_196 0) (e2_al 2 as_b514) [] E_b514 f_b514 = true := by decide +kernel
set_option maxRecDepth 1000000 in
theorem co_b514 : e2_okSB E_b514.length as_b514 f_b514 rs_b514 = true := by decide +kernel
theorem cs_b514 (hen : en_ok) (l : Launch) (hh : e2_hand_b l) : e2_smOk l 62 s_b514 := e2_con0 (H := 60) (n := 1) (C := evd_196) (S := S_b514) (I := I_b514) (fuel := 4000) [] hen ei_196 (e2_fa (hh _ hm_b55) (e2_fa ((cs_b187 hen l).mono (by decide)) (e2_fa ((cs_b245 hen l).mono (by decide)) (e2_fa ((cs_b261 hen l).mono (by decide)) (e2_fa ((cs_b264 hen l).mono (by decide)) (e2_fa ((cs_b370 hen l).mono (by decide)) (e2_fa ((cs_b492 hen l).mono (by decide)) e2_fz))))))) (e2_fa ein_179 e2_fz) (by decide) co_b514 ex2_196 ck_b514
/-! b515 X10_readGlyph -/
def as_b515 : List ev_V := [(2, 83, 0)]
def E_b515 : e2_E := [(2147483648, 2147583648, 0, 0), (2147483648, 2147483656, 1, 0), (2147483648, 2147485249, 2, 0)]
def bn3166 : e2_Q7 := (bn485, bn2985)
def bn3167 : e2_Q8 := (bn1824, bn3166)
noncomputable def f_b515 : ev_H := (bn3167 : e2_Q8)
def bn3168 : e2_Q7 := (bn485, bn2988)
def bn3169 : e2_Q8 := (bn1938, bn3168)
noncomputable def q_b515_0 : ev_H := (bn3169 : e2_Q8)
noncomputable def rs_b515 : e2_Rs := [((9, 0, 0), q_b515_0)]
noncomputable def s_b515 : e2_Sm := (196, as_b515, E_b515, f_b515, rs_b515)
noncomputable def S_b515 : List e2_Sm := [s_b48, s_b185, s_b234, s_b268, s_b271, s_b372, s_b494]
noncomputable def I_b515 : List e2_In := [(179, 3, e2x_179)]
set_option maxRecDepth 1000000 in
theorem ck_b515 : e2_run (e2_cal S_b515 I_b515 4000 1) (e2_fin rs_b515) e2x_196 (fun _ => false) (fun _ _ _ _ _ => false) 4000 (e2_seek e2x_196 0) (e2_al 2 as_b515) [] E_b515 f_b515 = true := by decide +kernel
set_option maxRecDepth 1000000 in
theorem co_b515 : e2_okSB E_b515.length as_b515 f_b515 rs_b515 = true := by decide +kernel
theorem cs_b515 (hen : en_ok) (l : Launch) (hh : e2_hand_b l) : e2_smOk l 62 s_b515 := e2_con0 (H := 60) (n := 1) (C := evd_196) (S := S_b515) (I := I_b515) (fuel := 4000) [] hen ei_196 (e2_fa (hh _ hm_b48) (e2_fa ((cs_b185 hen l).mono (by decide)) (e2_fa ((cs_b234 hen l).mono (by decide)) (e2_fa ((cs_b268 hen l).mono (by decide)) (e2_fa ((cs_b271 hen l).mono (by decide)) (e2_fa ((cs_b372 hen l).mono (by decide)) (e2_fa ((cs_b494 hen l).mono (by decide)) e2_fz))))))) (e2_fa ein_179 e2_fz) (by decide) co_b515 ex2_196 ck_b515
/-! b516 X10_readGlyph -/
def as_b516 : List ev_V := [(2, 83, 0)]
def E_b516 : e2_E := [(2147483648, 2147583648, 0, 0), (2147483648, 2147483656, 1, 0), (2147483648, 2147485249, 2, 0)]
def bn3170 : e2_Q7 := (bn485, bn2994)
def bn3171 : e2_Q8 := (bn1824, bn3170)
noncomputable def f_b516 : ev_H := (bn3171 : e2_Q8)
def bn3172 : e2_Q7 := (bn485, bn2997)
def bn3173 : e2_Q8 := (bn1938, bn3172)
noncomputable def q_b516_0 : ev_H := (bn3173 : e2_Q8)
noncomputable def rs_b516 : e2_Rs := [((9, 0, 0), q_b516_0)]
noncomputable def s_b516 : e2_Sm := (196, as_b516, E_b516, f_b516, rs_b516)
noncomputable def S_b516 : List e2_Sm := [s_b46, s_b178, s_b232, s_b275, s_b278, s_b374, s_b496]
noncomputable def I_b516 : List e2_In := [(179, 3, e2x_179)]
set_option maxRecDepth 1000000 in
theorem ck_b516 : e2_run (e2_cal S_b516 I_b516 4000 1) (e2_fin rs_b516) e2x_196 (fun _ => false) (fun _ _ _ _ _ => false) 4000 (e2_seek e2x_196 0) (e2_al 2 as_b516) [] E_b516 f_b516 = true := by decide +kernel
set_option maxRecDepth 1000000 in
theorem co_b516 : e2_okSB E_b516.length as_b516 f_b516 rs_b516 = true := by decide +kernel
theorem cs_b516 (hen : en_ok) (l : Launch) (hh : e2_hand_b l) : e2_smOk l 62 s_b516 := e2_con0 (H := 60) (n := 1) (C := evd_196) (S := S_b516) (I := I_b516) (fuel := 4000) [] hen ei_196 (e2_fa (hh _ hm_b46) (e2_fa ((cs_b178 hen l).mono (by decide)) (e2_fa ((cs_b232 hen l).mono (by decide)) (e2_fa ((cs_b275 hen l).mono (by decide)) (e2_fa ((cs_b278 hen l).mono (by decide)) (e2_fa ((cs_b374 hen l).mono (by decide)) (e2_fa ((cs_b496 hen l).mono (by decide)) e2_fz))))))) (e2_fa ein_179 e2_fz) (by decide) co_b516 ex2_196 ck_b516
/-! b517 X10_readGlyph -/
def as_b517 : List ev_V := [(2, 83, 0)]
def E_b517 : e2_E := [(2147483648, 2147583648, 0, 0), (2147483648, 2147483656, 1, 0), (2147483648, 2147485249, 2, 0)]
def bn3174 : e2_Q7 := (bn1847, bn3021)
def bn3175 : e2_Q8 := (bn1824, bn3174)
noncomputable def f_b517 : ev_H := (bn3175 : e2_Q8)
def bn3176 : e2_Q7 := (bn1961, bn3024)
def bn3177 : e2_Q8 := (bn1938, bn3176)
noncomputable def q_b517_0 : ev_H := (bn3177 : e2_Q8)
def bn3178 : e2_Q7 := (bn1847, bn3027)
def bn3179 : e2_Q8 := (bn1938, bn3178)
noncomputable def q_b517_1 : ev_H := (bn3179 : e2_Q8)
def bn3180 : e2_Q7 := (bn1961, bn3030)
def bn3181 : e2_Q8 := (bn1938, bn3180)
noncomputable def q_b517_2 : ev_H := (bn3181 : e2_Q8)
def bn3182 : e2_Q7 := (bn1961, bn3033)
def bn3183 : e2_Q8 := (bn1938, bn3182)
noncomputable def q_b517_3 : ev_H := (bn3183 : e2_Q8)
def bn3184 : e2_Q7 := (bn1961, bn3036)
def bn3185 : e2_Q8 := (bn1938, bn3184)
noncomputable def q_b517_4 : ev_H := (bn3185 : e2_Q8)
def bn3186 : e2_Q7 := (bn1961, bn3039)
def bn3187 : e2_Q8 := (bn1938, bn3186)
noncomputable def q_b517_5 : ev_H := (bn3187 : e2_Q8)
def bn3188 : e2_Q7 := (bn1961, bn3042)
def bn3189 : e2_Q8 := (bn1938, bn3188)
noncomputable def q_b517_6 : ev_H := (bn3189 : e2_Q8)
def bn3190 : e2_Q7 := (bn1961, bn3045)
def bn3191 : e2_Q8 := (bn1938, bn3190)
noncomputable def q_b517_7 : ev_H := (bn3191 : e2_Q8)
def bn3192 : e2_Q7 := (bn1961, bn2970)
def bn3193 : e2_Q8 := (bn1938, bn3192)
noncomputable def q_b517_8 : ev_H := (bn3193 : e2_Q8)
def bn3194 : e2_Q7 := (bn1961, bn2997)
def bn3195 : e2_Q8 := (bn1938, bn3194)
noncomputable def q_b517_9 : ev_H := (bn3195 : e2_Q8)
def bn3196 : e2_Q7 := (bn1847, bn3052)
def bn3197 : e2_Q8 := (bn1938, bn3196)
noncomputable def q_b517_10 : ev_H := (bn3197 : e2_Q8)
noncomputable def rs_b517 : e2_Rs := [((9, 0, 0), q_b517_0), ((9, 0, 0), q_b517_1), ((9, 0, 0), q_b517_2), ((9, 0, 0), q_b517_3), ((9, 0, 0), q_b517_4), ((9, 0, 0), q_b517_5), ((9, 0, 0), q_b517_6), ((9, 0, 0), q_b517_7), ((9, 0, 0), q_b517_8), ((9, 0, 0), q_b517_9), ((9, 0, 0), q_b517_10)]
noncomputable def s_b517 : e2_Sm := (196, as_b517, E_b517, f_b517, rs_b517)
noncomputable def S_b517 : List e2_Sm := [s_b49, s_b50, s_b51, s_b52, s_b53, s_b54, s_b181, s_b183, s_b184, s_b186, s_b188, s_b190, s_b191, s_b192, s_b232, s_b233, s_b235, s_b236, s_b237, s_b238, s_b239, s_b240, s_b241, s_b242, s_b243, s_b244, s_b257, s_b278, s_b282, s_b285, s_b286, s_b287, s_b288, s_b289, s_b290, s_b291, s_b292, s_b293, s_b294, s_b295, s_b337, s_b345, s_b347, s_b376, s_b490, s_b496, s_b498, s_b499, s_b500, s_b501, s_b502, s_b503, s_b504]
noncomputable def I_b517 : List e2_In := [(179, 3, e2x_179)]
set_option maxRecDepth 1000000 in
theorem ck_b517 : e2_run (e2_cal S_b517 I_b517 4000 1) (e2_fin rs_b517) e2x_196 (fun _ => false) (fun _ _ _ _ _ => false) 4000 (e2_seek e2x_196 0) (e2_al 2 as_b517) [] E_b517 f_b517 = true := by decide +kernel
set_option maxRecDepth 1000000 in
theorem co_b517 : e2_okSB E_b517.length as_b517 f_b517 rs_b517 = true := by decide +kernel
theorem cs_b517 (hen : en_ok) (l : Launch) (hh : e2_hand_b l) : e2_smOk l 62 s_b517 := e2_con0 (H := 60) (n := 1) (C := evd_196) (S := S_b517) (I := I_b517) (fuel := 4000) [] hen ei_196 (e2_fa (hh _ hm_b49) (e2_fa (hh _ hm_b50) (e2_fa (hh _ hm_b51) (e2_fa (hh _ hm_b52) (e2_fa (hh _ hm_b53) (e2_fa (hh _ hm_b54) (e2_fa ((cs_b181 hen l).mono (by decide)) (e2_fa ((cs_b183 hen l).mono (by decide)) (e2_fa ((cs_b184 hen l).mono (by decide)) (e2_fa ((cs_b186 hen l).mono (by decide)) (e2_fa ((cs_b188 hen l).mono (by decide)) (e2_fa ((cs_b190 hen l).mono (by decide)) (e2_fa ((cs_b191 hen l).mono (by decide)) (e2_fa ((cs_b192 hen l).mono (by decide)) (e2_fa ((cs_b232 hen l).mono (by decide)) (e2_fa ((cs_b233 hen l).mono (by decide)) (e2_fa ((cs_b235 hen l).mono (by decide)) (e2_fa ((cs_b236 hen l).mono (by decide)) (e2_fa ((cs_b237 hen l).mono (by decide)) (e2_fa ((cs_b238 hen l).mono (by decide)) (e2_fa ((cs_b239 hen l).mono (by decide)) (e2_fa ((cs_b240 hen l).mono (by decide)) (e2_fa ((cs_b241 hen l).mono (by decide)) (e2_fa ((cs_b242 hen l).mono (by decide)) (e2_fa ((cs_b243 hen l).mono (by decide)) (e2_fa ((cs_b244 hen l).mono (by decide)) (e2_fa ((cs_b257 hen l).mono (by decide)) (e2_fa ((cs_b278 hen l).mono (by decide)) (e2_fa ((cs_b282 hen l).mono (by decide)) (e2_fa ((cs_b285 hen l).mono (by decide)) (e2_fa ((cs_b286 hen l).mono (by decide)) (e2_fa ((cs_b287 hen l).mono (by decide)) (e2_fa ((cs_b288 hen l).mono (by decide)) (e2_fa ((cs_b289 hen l).mono (by decide)) (e2_fa ((cs_b290 hen l).mono (by decide)) (e2_fa ((cs_b291 hen l).mono (by decide)) (e2_fa ((cs_b292 hen l).mono (by decide)) (e2_fa ((cs_b293 hen l).mono (by decide)) (e2_fa ((cs_b294 hen l).mono (by decide)) (e2_fa ((cs_b295 hen l).mono (by decide)) (e2_fa ((cs_b337 hen l).mono (by decide)) (e2_fa ((cs_b345 hen l).mono (by decide)) (e2_fa ((cs_b347 hen l).mono (by decide)) (e2_fa ((cs_b376 hen l).mono (by decide)) (e2_fa ((cs_b490 hen l).mono (by decide)) (e2_fa ((cs_b496 hen l).mono (by decide)) (e2_fa ((cs_b498 hen l).mono (by decide)) (e2_fa ((cs_b499 hen l).mono (by decide)) (e2_fa ((cs_b500 hen l).mono (by decide)) (e2_fa ((cs_b501 hen l).mono (by decide)) (e2_fa ((cs_b502 hen l).mono (by decide)) (e2_fa ((cs_b503 hen l).mono (by decide)) (e2_fa ((cs_b504 hen l).mono (by decide)) e2_fz))))))))))))))))))))))))))))))))))))))))))))))))))))) (e2_fa ein_179 e2_fz) (by decide) co_b517 ex2_196 ck_b517
/-! b518 X10_readLine -/
def as_b518 : List ev_V := [(2, 83, 0)]
def E_b518 : e2_E := [(2147483648, 2147583648, 0, 0), (2147483648, 2147483656, 1, 0), (2147483648, 2147485249, 2, 0)]
def bn3198 : e2_Q7 := (bn1912, bn3056)
def bn3199 : e2_Q8 := (bn1906, bn3198)
noncomputable def f_b518 : ev_H := (bn3199 : e2_Q8)
noncomputable def q_b518_0 : ev_H := (bn2006 : e2_Q8)
noncomputable def q_b518_1 : ev_H := (bn2008 : e2_Q8)
noncomputable def q_b518_2 : ev_H := (bn2010 : e2_Q8)
noncomputable def q_b518_3 : ev_H := (bn2012 : e2_Q8)
noncomputable def q_b518_4 : ev_H := (bn1914 : e2_Q8)
noncomputable def q_b518_5 : ev_H := (bn1916 : e2_Q8)
noncomputable def q_b518_6 : ev_H := (bn1918 : e2_Q8)
noncomputable def q_b518_7 : ev_H := (bn1920 : e2_Q8)
noncomputable def q_b518_8 : ev_H := (bn1922 : e2_Q8)
noncomputable def q_b518_9 : ev_H := (bn2014 : e2_Q8)
def bn3200 : e2_Q7 := (bn1912, bn3059)
def bn3201 : e2_Q8 := (bn1906, bn3200)
noncomputable def q_b518_10 : ev_H := (bn3201 : e2_Q8)
def bn3202 : e2_Q7 := (bn1912, bn3062)
def bn3203 : e2_Q8 := (bn2020, bn3202)
noncomputable def q_b518_11 : ev_H := (bn3203 : e2_Q8)
def bn3204 : e2_Q7 := (bn1912, bn3065)
def bn3205 : e2_Q8 := (bn2020, bn3204)
noncomputable def q_b518_12 : ev_H := (bn3205 : e2_Q8)
def bn3206 : e2_Q7 := (bn1912, bn3068)
def bn3207 : e2_Q8 := (bn2020, bn3206)
noncomputable def q_b518_13 : ev_H := (bn3207 : e2_Q8)
def bn3208 : e2_Q8 := (bn2020, bn3200)
noncomputable def q_b518_14 : ev_H := (bn3208 : e2_Q8)
def bn3209 : e2_Q7 := (bn2026, bn3072)
def bn3210 : e2_Q8 := (bn2020, bn3209)
noncomputable def q_b518_15 : ev_H := (bn3210 : e2_Q8)
def bn3211 : e2_Q7 := (bn2026, bn3075)
def bn3212 : e2_Q8 := (bn2020, bn3211)
noncomputable def q_b518_16 : ev_H := (bn3212 : e2_Q8)
def bn3213 : e2_Q7 := (bn2026, bn3078)
def bn3214 : e2_Q8 := (bn2020, bn3213)
noncomputable def q_b518_17 : ev_H := (bn3214 : e2_Q8)
def bn3215 : e2_Q7 := (bn2026, bn3081)
def bn3216 : e2_Q8 := (bn2020, bn3215)
noncomputable def q_b518_18 : ev_H := (bn3216 : e2_Q8)
def bn3217 : e2_Q7 := (bn2026, bn3084)
def bn3218 : e2_Q8 := (bn2020, bn3217)
noncomputable def q_b518_19 : ev_H := (bn3218 : e2_Q8)
def bn3219 : e2_Q7 := (bn1912, bn3087)
def bn3220 : e2_Q8 := (bn2020, bn3219)
noncomputable def q_b518_20 : ev_H := (bn3220 : e2_Q8)
def bn3221 : e2_Q7 := (bn1912, bn3090)
def bn3222 : e2_Q8 := (bn2020, bn3221)
noncomputable def q_b518_21 : ev_H := (bn3222 : e2_Q8)
noncomputable def rs_b518 : e2_Rs := [((9, 0, 0), q_b518_0), ((9, 0, 0), q_b518_1), ((9, 0, 0), q_b518_2), ((9, 0, 0), q_b518_3), ((9, 0, 0), q_b518_4), ((9, 0, 0), q_b518_5), ((9, 0, 0), q_b518_6), ((9, 0, 0), q_b518_7), ((9, 0, 0), q_b518_8), ((9, 0, 0), q_b518_9), ((9, 0, 0), q_b518_10), ((9, 0, 0), q_b518_11), ((9, 0, 0), q_b518_12), ((9, 0, 0), q_b518_13), ((9, 0, 0), q_b518_14), ((9, 0, 0), q_b518_15), ((9, 0, 0), q_b518_16), ((9, 0, 0), q_b518_17), ((9, 0, 0), q_b518_18), ((9, 0, 0), q_b518_19), ((9, 0, 0), q_b518_20), ((9, 0, 0), q_b518_21)]
noncomputable def s_b518 : e2_Sm := (187, as_b518, E_b518, f_b518, rs_b518)
noncomputable def S_b518 : List e2_Sm := [s_b173, s_b178, s_b179, s_b180, s_b181, s_b182, s_b183, s_b184, s_b185, s_b186, s_b187, s_b188, s_b189, s_b190, s_b191, s_b192, s_b193, s_b194, s_b195, s_b196, s_b197, s_b198, s_b199, s_b217, s_b218, s_b219, s_b220, s_b221, s_b249, s_b250, s_b251, s_b252, s_b253, s_b332, s_b333, s_b334, s_b335, s_b336, s_b338, s_b341, s_b344, s_b346, s_b348, s_b378, s_b379, s_b380, s_b381, s_b384, s_b513, s_b514, s_b515, s_b516, s_b517]
noncomputable def I_b518 : List e2_In := [(170, 2, e2x_170), (173, 3, e2x_173), (174, 1, e2x_174), (178, 2, e2x_178), (179, 3, e2x_179), (180, 1, e2x_180), (186, 1, e2x_186)]
set_option maxRecDepth 1000000 in
theorem ck_b518 : e2_run (e2_cal S_b518 I_b518 4000 2) (e2_fin rs_b518) e2x_187 (fun _ => false) (fun _ _ _ _ _ => false) 4000 (e2_seek e2x_187 0) (e2_al 3 as_b518) [] E_b518 f_b518 = true := by decide +kernel
set_option maxRecDepth 1000000 in
theorem co_b518 : e2_okSB E_b518.length as_b518 f_b518 rs_b518 = true := by decide +kernel
theorem cs_b518 (hen : en_ok) (l : Launch) (hh : e2_hand_b l) : e2_smOk l 65 s_b518 := e2_con0 (H := 62) (n := 2) (C := evd_187) (S := S_b518) (I := I_b518) (fuel := 4000) [] hen ei_187 (e2_fa ((cs_b173 hen l).mono (by decide)) (e2_fa ((cs_b178 hen l).mono (by decide)) (e2_fa ((cs_b179 hen l).mono (by decide)) (e2_fa ((cs_b180 hen l).mono (by decide)) (e2_fa ((cs_b181 hen l).mono (by decide)) (e2_fa ((cs_b182 hen l).mono (by decide)) (e2_fa ((cs_b183 hen l).mono (by decide)) (e2_fa ((cs_b184 hen l).mono (by decide)) (e2_fa ((cs_b185 hen l).mono (by decide)) (e2_fa ((cs_b186 hen l).mono (by decide)) (e2_fa ((cs_b187 hen l).mono (by decide)) (e2_fa ((cs_b188 hen l).mono (by decide)) (e2_fa ((cs_b189 hen l).mono (by decide)) (e2_fa ((cs_b190 hen l).mono (by decide)) (e2_fa ((cs_b191 hen l).mono (by decide)) (e2_fa ((cs_b192 hen l).mono (by decide)) (e2_fa ((cs_b193 hen l).mono (by decide)) (e2_fa ((cs_b194 hen l).mono (by decide)) (e2_fa ((cs_b195 hen l).mono (by decide)) (e2_fa ((cs_b196 hen l).mono (by decide)) (e2_fa ((cs_b197 hen l).mono (by decide)) (e2_fa ((cs_b198 hen l).mono (by decide)) (e2_fa ((cs_b199 hen l).mono (by decide)) (e2_fa ((cs_b217 hen l).mono (by decide)) (e2_fa ((cs_b218 hen l).mono (by decide)) (e2_fa ((cs_b219 hen l).mono (by decide)) (e2_fa ((cs_b220 hen l).mono (by decide)) (e2_fa ((cs_b221 hen l).mono (by decide)) (e2_fa ((cs_b249 hen l).mono (by decide)) (e2_fa ((cs_b250 hen l).mono (by decide)) (e2_fa ((cs_b251 hen l).mono (by decide)) (e2_fa ((cs_b252 hen l).mono (by decide)) (e2_fa ((cs_b253 hen l).mono (by decide)) (e2_fa ((cs_b332 hen l hh).mono (by decide)) (e2_fa ((cs_b333 hen l hh).mono (by decide)) (e2_fa ((cs_b334 hen l hh).mono (by decide)) (e2_fa ((cs_b335 hen l hh).mono (by decide)) (e2_fa ((cs_b336 hen l hh).mono (by decide)) (e2_fa ((cs_b338 hen l).mono (by decide)) (e2_fa ((cs_b341 hen l).mono (by decide)) (e2_fa ((cs_b344 hen l).mono (by decide)) (e2_fa ((cs_b346 hen l).mono (by decide)) (e2_fa ((cs_b348 hen l).mono (by decide)) (e2_fa ((cs_b378 hen l).mono (by decide)) (e2_fa ((cs_b379 hen l).mono (by decide)) (e2_fa ((cs_b380 hen l).mono (by decide)) (e2_fa ((cs_b381 hen l).mono (by decide)) (e2_fa ((cs_b384 hen l).mono (by decide)) (e2_fa (cs_b513 hen l hh) (e2_fa (cs_b514 hen l hh) (e2_fa (cs_b515 hen l hh) (e2_fa (cs_b516 hen l hh) (e2_fa (cs_b517 hen l hh) e2_fz))))))))))))))))))))))))))))))))))))))))))))))))))))) (e2_fa ein_170 (e2_fa ein_173 (e2_fa ein_174 (e2_fa ein_178 (e2_fa ein_179 (e2_fa ein_180 (e2_fa ein_186 e2_fz))))))) (by decide) co_b518 ex2_187 ck_b518
