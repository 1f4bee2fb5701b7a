/-! CONTRACTS b, printed by a program -/
/-! b543 X10_readGlyph -/
def as_b543 : List ev_V := [(2, 83, 0)]
def E_b543 : e2_E := [(2147483648, 2147583648, 0, 0), (2147483648, 2147483656, 1, 0), (2147483648, 2147485249, 2, 0)]
def bn3483 : e2_Q7 := (bn645, bn2967)
def bn3484 : e2_Q8 := (bn2394, bn3483)
noncomputable def f_b543 : ev_H := (bn3484 : e2_Q8)
def bn3485 : e2_Q7 := (bn645, bn2970)
def bn3486 : e2_Q8 := (bn2508, bn3485)
noncomputable def q_b543_0 : ev_H := (bn3486 : e2_Q8)
noncomputable def rs_b543 : e2_Rs := [((9, 0, 0), q_b543_0)]
noncomputable def s_b543 : e2_Sm := (196, as_b543, E_b543, f_b543, rs_b543)
noncomputable def S_b543 : List e2_Sm := [s_b147, s_b179, s_b233, s_b254, s_b257, s_b458, s_b490]
noncomputable def I_b543 : List e2_In := [(179, 3, e2x_179)]
set_option maxRecDepth 1000000 in
theorem ck_b543 : e2_run (e2_cal S_b543 I_b543 4000 1) (e2_fin rs_b543) e2x_196 (fun _ => false) (fun _ _ _ _ _ => false) 4000 (e2_seek e2x_196 0) (e2_al 2 as_b543) [] E_b543 f_b543 = true := by decide +kernel
set_option maxRecDepth 1000000 in
theorem co_b543 : e2_okSB E_b543.length as_b543 f_b543 rs_b543 = true := by decide +kernel
theorem cs_b543 (hen : en_ok) (l : Launch) (hh : e2_hand_b l) : e2_smOk l 62 s_b543 := e2_con0 (H := 60) (n := 1) (C := evd_196) (S := S_b543) (I := I_b543) (fuel := 4000) [] hen ei_196 (e2_fa (hh _ hm_b147) (e2_fa ((cs_b179 hen l).mono (by decide)) (e2_fa ((cs_b233 hen l).mono (by decide)) (e2_fa ((cs_b254 hen l).mono (by decide)) (e2_fa ((cs_b257 hen l).mono (by decide)) (e2_fa ((cs_b458 hen l).mono (by decide)) (e2_fa ((cs_b490 hen l).mono (by decide)) e2_fz))))))) (e2_fa ein_179 e2_fz) (by decide) co_b543 ex2_196 ck_b543
/-! b544 X10_readGlyph -/
def as_b544 : List ev_V := [(2, 83, 0)]
def E_b544 : e2_E := [(2147483648, 2147583648, 0, 0), (2147483648, 2147483656, 1, 0), (2147483648, 2147485249, 2, 0)]
def bn3487 : e2_Q7 := (bn645, bn2976)
def bn3488 : e2_Q8 := (bn2394, bn3487)
noncomputable def f_b544 : ev_H := (bn3488 : e2_Q8)
def bn3489 : e2_Q7 := (bn645, bn2979)
def bn3490 : e2_Q8 := (bn2508, bn3489)
noncomputable def q_b544_0 : ev_H := (bn3490 : e2_Q8)
noncomputable def rs_b544 : e2_Rs := [((9, 0, 0), q_b544_0)]
noncomputable def s_b544 : e2_Sm := (196, as_b544, E_b544, f_b544, rs_b544)
noncomputable def S_b544 : List e2_Sm := [s_b155, s_b187, s_b245, s_b261, s_b264, s_b460, s_b492]
noncomputable def I_b544 : List e2_In := [(179, 3, e2x_179)]
set_option maxRecDepth 1000000 in
theorem ck_b544 : e2_run (e2_cal S_b544 I_b544 4000 1) (e2_fin rs_b544) e2x_196 (fun _ => false) (fun _ _ _ _ _ => false) 4000 (e2_seek e2x_196 0) (e2_al 2 as_b544) [] E_b544 f_b544 = true := by decide +kernel
set_option maxRecDepth 1000000 in
theorem co_b544 : e2_okSB E_b544.length as_b544 f_b544 rs_b544 = true := by decide +kernel
theorem cs_b544 (hen : en_ok) (l : Launch) (hh : e2_hand_b l) : e2_smOk l 62 s_b544 := e2_con0 (H := 60) (n := 1) (C := evd_196) (S := S_b544) (I := I_b544) (fuel := 4000) [] hen ei_196 (e2_fa (hh _ hm_b155) (e2_fa ((cs_b187 hen l).mono (by decide)) (e2_fa ((cs_b245 hen l).mono (by decide)) (e2_fa ((cs_b261 hen l).mono (by decide)) (e2_fa ((cs_b264 hen l).mono (by decide)) (e2_fa ((cs_b460 hen l).mono (by decide)) (e2_fa ((cs_b492 hen l).mono (by decide)) e2_fz))))))) (e2_fa ein_179 e2_fz) (by decide) co_b544 ex2_196 ck_b544
/-! b545 X10_readGlyph -/
def as_b545 : List ev_V := [(2, 83, 0)]
def E_b545 : e2_E := [(2147483648, 2147583648, 0, 0), (2147483648, 2147483656, 1, 0), (2147483648, 2147485249, 2, 0)]
def bn3491 : e2_Q7 := (bn645, bn2985)
def bn3492 : e2_Q8 := (bn2394, bn3491)
noncomputable def f_b545 : ev_H := (bn3492 : e2_Q8)
def bn3493 : e2_Q7 := (bn645, bn2988)
def bn3494 : e2_Q8 := (bn2508, bn3493)
noncomputable def q_b545_0 : ev_H := (bn3494 : e2_Q8)
noncomputable def rs_b545 : e2_Rs := [((9, 0, 0), q_b545_0)]
noncomputable def s_b545 : e2_Sm := (196, as_b545, E_b545, f_b545, rs_b545)
noncomputable def S_b545 : List e2_Sm := [s_b148, s_b185, s_b234, s_b268, s_b271, s_b462, s_b494]
noncomputable def I_b545 : List e2_In := [(179, 3, e2x_179)]
set_option maxRecDepth 1000000 in
theorem ck_b545 : e2_run (e2_cal S_b545 I_b545 4000 1) (e2_fin rs_b545) e2x_196 (fun _ => false) (fun _ _ _ _ _ => false) 4000 (e2_seek e2x_196 0) (e2_al 2 as_b545) [] E_b545 f_b545 = true := by decide +kernel
set_option maxRecDepth 1000000 in
theorem co_b545 : e2_okSB E_b545.length as_b545 f_b545 rs_b545 = true := by decide +kernel
theorem cs_b545 (hen : en_ok) (l : Launch) (hh : e2_hand_b l) : e2_smOk l 62 s_b545 := e2_con0 (H := 60) (n := 1) (C := evd_196) (S := S_b545) (I := I_b545) (fuel := 4000) [] hen ei_196 (e2_fa (hh _ hm_b148) (e2_fa ((cs_b185 hen l).mono (by decide)) (e2_fa ((cs_b234 hen l).mono (by decide)) (e2_fa ((cs_b268 hen l).mono (by decide)) (e2_fa ((cs_b271 hen l).mono (by decide)) (e2_fa ((cs_b462 hen l).mono (by decide)) (e2_fa ((cs_b494 hen l).mono (by decide)) e2_fz))))))) (e2_fa ein_179 e2_fz) (by decide) co_b545 ex2_196 ck_b545
/-! b546 X10_readGlyph -/
def as_b546 : List ev_V := [(2, 83, 0)]
def E_b546 : e2_E := [(2147483648, 2147583648, 0, 0), (2147483648, 2147483656, 1, 0), (2147483648, 2147485249, 2, 0)]
def bn3495 : e2_Q7 := (bn645, bn2994)
def bn3496 : e2_Q8 := (bn2394, bn3495)
noncomputable def f_b546 : ev_H := (bn3496 : e2_Q8)
def bn3497 : e2_Q7 := (bn645, bn2997)
def bn3498 : e2_Q8 := (bn2508, bn3497)
noncomputable def q_b546_0 : ev_H := (bn3498 : e2_Q8)
noncomputable def rs_b546 : e2_Rs := [((9, 0, 0), q_b546_0)]
noncomputable def s_b546 : e2_Sm := (196, as_b546, E_b546, f_b546, rs_b546)
noncomputable def S_b546 : List e2_Sm := [s_b146, s_b178, s_b232, s_b275, s_b278, s_b464, s_b496]
noncomputable def I_b546 : List e2_In := [(179, 3, e2x_179)]
set_option maxRecDepth 1000000 in
theorem ck_b546 : e2_run (e2_cal S_b546 I_b546 4000 1) (e2_fin rs_b546) e2x_196 (fun _ => false) (fun _ _ _ _ _ => false) 4000 (e2_seek e2x_196 0) (e2_al 2 as_b546) [] E_b546 f_b546 = true := by decide +kernel
set_option maxRecDepth 1000000 in
theorem co_b546 : e2_okSB E_b546.length as_b546 f_b546 rs_b546 = true := by decide +kernel
theorem cs_b546 (hen : en_ok) (l : Launch) (hh : e2_hand_b l) : e2_smOk l 62 s_b546 := e2_con0 (H := 60) (n := 1) (C := evd_196) (S := S_b546) (I := I_b546) (fuel := 4000) [] hen ei_196 (e2_fa (hh _ hm_b146) (e2_fa ((cs_b178 hen l).mono (by decide)) (e2_fa ((cs_b232 hen l).mono (by decide)) (e2_fa ((cs_b275 hen l).mono (by decide)) (e2_fa ((cs_b278 hen l).mono (by decide)) (e2_fa ((cs_b464 hen l).mono (by decide)) (e2_fa ((cs_b496 hen l).mono (by decide)) e2_fz))))))) (e2_fa ein_179 e2_fz) (by decide) co_b546 ex2_196 ck_b546
/-! b547 X10_readGlyph -/
def as_b547 : List ev_V := [(2, 83, 0)]
def E_b547 : e2_E := [(2147483648, 2147583648, 0, 0), (2147483648, 2147483656, 1, 0), (2147483648, 2147485249, 2, 0)]
def bn3499 : e2_Q7 := (bn2417, bn3021)
def bn3500 : e2_Q8 := (bn2394, bn3499)
noncomputable def f_b547 : ev_H := (bn3500 : e2_Q8)
def bn3501 : e2_Q7 := (bn2531, bn3024)
def bn3502 : e2_Q8 := (bn2508, bn3501)
noncomputable def q_b547_0 : ev_H := (bn3502 : e2_Q8)
def bn3503 : e2_Q7 := (bn2417, bn3027)
def bn3504 : e2_Q8 := (bn2508, bn3503)
noncomputable def q_b547_1 : ev_H := (bn3504 : e2_Q8)
def bn3505 : e2_Q7 := (bn2531, bn3030)
def bn3506 : e2_Q8 := (bn2508, bn3505)
noncomputable def q_b547_2 : ev_H := (bn3506 : e2_Q8)
def bn3507 : e2_Q7 := (bn2531, bn3033)
def bn3508 : e2_Q8 := (bn2508, bn3507)
noncomputable def q_b547_3 : ev_H := (bn3508 : e2_Q8)
def bn3509 : e2_Q7 := (bn2531, bn3036)
def bn3510 : e2_Q8 := (bn2508, bn3509)
noncomputable def q_b547_4 : ev_H := (bn3510 : e2_Q8)
def bn3511 : e2_Q7 := (bn2531, bn3039)
def bn3512 : e2_Q8 := (bn2508, bn3511)
noncomputable def q_b547_5 : ev_H := (bn3512 : e2_Q8)
def bn3513 : e2_Q7 := (bn2531, bn3042)
def bn3514 : e2_Q8 := (bn2508, bn3513)
noncomputable def q_b547_6 : ev_H := (bn3514 : e2_Q8)
def bn3515 : e2_Q7 := (bn2531, bn3045)
def bn3516 : e2_Q8 := (bn2508, bn3515)
noncomputable def q_b547_7 : ev_H := (bn3516 : e2_Q8)
def bn3517 : e2_Q7 := (bn2531, bn2970)
def bn3518 : e2_Q8 := (bn2508, bn3517)
noncomputable def q_b547_8 : ev_H := (bn3518 : e2_Q8)
def bn3519 : e2_Q7 := (bn2531, bn2997)
def bn3520 : e2_Q8 := (bn2508, bn3519)
noncomputable def q_b547_9 : ev_H := (bn3520 : e2_Q8)
def bn3521 : e2_Q7 := (bn2417, bn3052)
def bn3522 : e2_Q8 := (bn2508, bn3521)
noncomputable def q_b547_10 : ev_H := (bn3522 : e2_Q8)
noncomputable def rs_b547 : e2_Rs := [((9, 0, 0), q_b547_0), ((9, 0, 0), q_b547_1), ((9, 0, 0), q_b547_2), ((9, 0, 0), q_b547_3), ((9, 0, 0), q_b547_4), ((9, 0, 0), q_b547_5), ((9, 0, 0), q_b547_6), ((9, 0, 0), q_b547_7), ((9, 0, 0), q_b547_8), ((9, 0, 0), q_b547_9), ((9, 0, 0), q_b547_10)]
noncomputable def s_b547 : e2_Sm := (196, as_b547, E_b547, f_b547, rs_b547)
noncomputable def S_b547 : List e2_Sm := [s_b149, s_b150, s_b151, s_b152, s_b153, s_b154, s_b181, s_b183, s_b184, s_b186, s_b188, s_b190, s_b191, s_b192, s_b232, s_b233, s_b235, s_b236, s_b237, s_b238, s_b239, s_b240, s_b241, s_b242, s_b243, s_b244, s_b257, s_b278, s_b282, s_b285, s_b286, s_b287, s_b288, s_b289, s_b290, s_b291, s_b292, s_b293, s_b294, s_b295, s_b337, s_b345, s_b347, s_b466, s_b490, s_b496, s_b498, s_b499, s_b500, s_b501, s_b502, s_b503, s_b504]
noncomputable def I_b547 : List e2_In := [(179, 3, e2x_179)]
set_option maxRecDepth 1000000 in
theorem ck_b547 : e2_run (e2_cal S_b547 I_b547 4000 1) (e2_fin rs_b547) e2x_196 (fun _ => false) (fun _ _ _ _ _ => false) 4000 (e2_seek e2x_196 0) (e2_al 2 as_b547) [] E_b547 f_b547 = true := by decide +kernel
set_option maxRecDepth 1000000 in
theorem co_b547 : e2_okSB E_b547.length as_b547 f_b547 rs_b547 = true := by decide +kernel
theorem cs_b547 (hen : en_ok) (l : Launch) (hh : e2_hand_b l) : e2_smOk l 62 s_b547 := e2_con0 (H := 60) (n := 1) (C := evd_196) (S := S_b547) (I := I_b547) (fuel := 4000) [] hen ei_196 (e2_fa (hh _ hm_b149) (e2_fa (hh _ hm_b150) (e2_fa (hh _ hm_b151) (e2_fa (hh _ hm_b152) (e2_fa (hh _ hm_b153) (e2_fa (hh _ hm_b154) (e2_fa ((cs_b181 hen l).mono (by decide)) (e2_fa ((cs_b183 hen l).mono (by decide)) (e2_fa ((cs_b184 hen l).mono (by decide)) (e2_fa ((cs_b186 hen l).mono (by decide)) (e2_fa ((cs_b188 hen l).mono (by decide)) (e2_fa ((cs_b190 hen l).mono (by decide)) (e2_fa ((cs_b191 hen l).mono (by decide)) (e2_fa ((cs_b192 hen l).mono (by decide)) (e2_fa ((cs_b232 hen l).mono (by decide)) (e2_fa ((cs_b233 hen l).mono (by decide)) (e2_fa ((cs_b235 hen l).mono (by decide)) (e2_fa ((cs_b236 hen l).mono (by decide)) (e2_fa ((cs_b237 hen l).mono (by decide)) (e2_fa ((cs_b238 hen l).mono (by decide)) (e2_fa ((cs_b239 hen l).mono (by decide)) (e2_fa ((cs_b240 hen l).mono (by decide)) (e2_fa ((cs_b241 hen l).mono (by decide)) (e2_fa ((cs_b242 hen l).mono (by decide)) (e2_fa ((cs_b243 hen l).mono (by decide)) (e2_fa ((cs_b244 hen l).mono (by decide)) (e2_fa ((cs_b257 hen l).mono (by decide)) (e2_fa ((cs_b278 hen l).mono (by decide)) (e2_fa ((cs_b282 hen l).mono (by decide)) (e2_fa ((cs_b285 hen l).mono (by decide)) (e2_fa ((cs_b286 hen l).mono (by decide)) (e2_fa ((cs_b287 hen l).mono (by decide)) (e2_fa ((cs_b288 hen l).mono (by decide)) (e2_fa ((cs_b289 hen l).mono (by decide)) (e2_fa ((cs_b290 hen l).mono (by decide)) (e2_fa ((cs_b291 hen l).mono (by decide)) (e2_fa ((cs_b292 hen l).mono (by decide)) (e2_fa ((cs_b293 hen l).mono (by decide)) (e2_fa ((cs_b294 hen l).mono (by decide)) (e2_fa ((cs_b295 hen l).mono (by decide)) (e2_fa ((cs_b337 hen l).mono (by decide)) (e2_fa ((cs_b345 hen l).mono (by decide)) (e2_fa ((cs_b347 hen l).mono (by decide)) (e2_fa ((cs_b466 hen l).mono (by decide)) (e2_fa ((cs_b490 hen l).mono (by decide)) (e2_fa ((cs_b496 hen l).mono (by decide)) (e2_fa ((cs_b498 hen l).mono (by decide)) (e2_fa ((cs_b499 hen l).mono (by decide)) (e2_fa ((cs_b500 hen l).mono (by decide)) (e2_fa ((cs_b501 hen l).mono (by decide)) (e2_fa ((cs_b502 hen l).mono (by decide)) (e2_fa ((cs_b503 hen l).mono (by decide)) (e2_fa ((cs_b504 hen l).mono (by decide)) e2_fz))))))))))))))))))))))))))))))))))))))))))))))))))))) (e2_fa ein_179 e2_fz) (by decide) co_b547 ex2_196 ck_b547
/-! b548 X10_readLine -/
def as_b548 : List ev_V := [(2, 83, 0)]
def E_b548 : e2_E := [(2147483648, 2147583648, 0, 0), (2147483648, 2147483656, 1, 0), (2147483648, 2147485249, 2, 0)]
def bn3523 : e2_Q7 := (bn2482, bn3056)
def bn3524 : e2_Q8 := (bn2476, bn3523)
noncomputable def f_b548 : ev_H := (bn3524 : e2_Q8)
noncomputable def q_b548_0 : ev_H := (bn2576 : e2_Q8)
noncomputable def q_b548_1 : ev_H := (bn2578 : e2_Q8)
noncomputable def q_b548_2 : ev_H := (bn2580 : e2_Q8)
noncomputable def q_b548_3 : ev_H := (bn2582 : e2_Q8)
noncomputable def q_b548_4 : ev_H := (bn2484 : e2_Q8)
noncomputable def q_b548_5 : ev_H := (bn2486 : e2_Q8)
noncomputable def q_b548_6 : ev_H := (bn2488 : e2_Q8)
noncomputable def q_b548_7 : ev_H := (bn2490 : e2_Q8)
noncomputable def q_b548_8 : ev_H := (bn2492 : e2_Q8)
noncomputable def q_b548_9 : ev_H := (bn2584 : e2_Q8)
def bn3525 : e2_Q7 := (bn2482, bn3059)
def bn3526 : e2_Q8 := (bn2476, bn3525)
noncomputable def q_b548_10 : ev_H := (bn3526 : e2_Q8)
def bn3527 : e2_Q7 := (bn2482, bn3062)
def bn3528 : e2_Q8 := (bn2590, bn3527)
noncomputable def q_b548_11 : ev_H := (bn3528 : e2_Q8)
def bn3529 : e2_Q7 := (bn2482, bn3065)
def bn3530 : e2_Q8 := (bn2590, bn3529)
noncomputable def q_b548_12 : ev_H := (bn3530 : e2_Q8)
def bn3531 : e2_Q7 := (bn2482, bn3068)
def bn3532 : e2_Q8 := (bn2590, bn3531)
noncomputable def q_b548_13 : ev_H := (bn3532 : e2_Q8)
def bn3533 : e2_Q8 := (bn2590, bn3525)
noncomputable def q_b548_14 : ev_H := (bn3533 : e2_Q8)
def bn3534 : e2_Q7 := (bn2596, bn3072)
def bn3535 : e2_Q8 := (bn2590, bn3534)
noncomputable def q_b548_15 : ev_H := (bn3535 : e2_Q8)
def bn3536 : e2_Q7 := (bn2596, bn3075)
def bn3537 : e2_Q8 := (bn2590, bn3536)
noncomputable def q_b548_16 : ev_H := (bn3537 : e2_Q8)
def bn3538 : e2_Q7 := (bn2596, bn3078)
def bn3539 : e2_Q8 := (bn2590, bn3538)
noncomputable def q_b548_17 : ev_H := (bn3539 : e2_Q8)
def bn3540 : e2_Q7 := (bn2596, bn3081)
def bn3541 : e2_Q8 := (bn2590, bn3540)
noncomputable def q_b548_18 : ev_H := (bn3541 : e2_Q8)
def bn3542 : e2_Q7 := (bn2596, bn3084)
def bn3543 : e2_Q8 := (bn2590, bn3542)
noncomputable def q_b548_19 : ev_H := (bn3543 : e2_Q8)
def bn3544 : e2_Q7 := (bn2482, bn3087)
def bn3545 : e2_Q8 := (bn2590, bn3544)
noncomputable def q_b548_20 : ev_H := (bn3545 : e2_Q8)
def bn3546 : e2_Q7 := (bn2482, bn3090)
def bn3547 : e2_Q8 := (bn2590, bn3546)
noncomputable def q_b548_21 : ev_H := (bn3547 : e2_Q8)
noncomputable def rs_b548 : e2_Rs := [((9, 0, 0), q_b548_0), ((9, 0, 0), q_b548_1), ((9, 0, 0), q_b548_2), ((9, 0, 0), q_b548_3), ((9, 0, 0), q_b548_4), ((9, 0, 0), q_b548_5), ((9, 0, 0), q_b548_6), ((9, 0, 0), q_b548_7), ((9, 0, 0), q_b548_8), ((9, 0, 0), q_b548_9), ((9, 0, 0), q_b548_10), ((9, 0, 0), q_b548_11), ((9, 0, 0), q_b548_12), ((9, 0, 0), q_b548_13), ((9, 0, 0), q_b548_14), ((9, 0, 0), q_b548_15), ((9, 0, 0), q_b548_16), ((9, 0, 0), q_b548_17), ((9, 0, 0), q_b548_18), ((9, 0, 0), q_b548_19), ((9, 0, 0), q_b548_20), ((9, 0, 0), q_b548_21)]
noncomputable def s_b548 : e2_Sm := (187, as_b548, E_b548, f_b548, rs_b548)
noncomputable def S_b548 : List e2_Sm := [s_b173, s_b178, s_b179, s_b180, s_b181, s_b182, s_b183, s_b184, s_b185, s_b186, s_b187, s_b188, s_b189, s_b190, s_b191, s_b192, s_b193, s_b194, s_b195, s_b196, s_b197, s_b198, s_b199, s_b217, s_b218, s_b219, s_b220, s_b221, s_b249, s_b250, s_b251, s_b252, s_b253, s_b332, s_b333, s_b334, s_b335, s_b336, s_b338, s_b341, s_b344, s_b346, s_b348, s_b468, s_b469, s_b470, s_b471, s_b474, s_b543, s_b544, s_b545, s_b546, s_b547]
noncomputable def I_b548 : List e2_In := [(170, 2, e2x_170), (173, 3, e2x_173), (174, 1, e2x_174), (178, 2, e2x_178), (179, 3, e2x_179), (180, 1, e2x_180), (186, 1, e2x_186)]
set_option maxRecDepth 1000000 in
theorem ck_b548 : e2_run (e2_cal S_b548 I_b548 4000 2) (e2_fin rs_b548) e2x_187 (fun _ => false) (fun _ _ _ _ _ => false) 4000 (e2_seek e2x_187 0) (e2_al 3 as_b548) [] E_b548 f_b548 = true := by decide +kernel
set_option maxRecDepth 1000000 in
theorem co_b548 : e2_okSB E_b548.length as_b548 f_b548 rs_b548 = true := by decide +kernel
theorem cs_b548 (hen : en_ok) (l : Launch) (hh : e2_hand_b l) : e2_smOk l 65 s_b548 := e2_con0 (H := 62) (n := 2) (C := evd_187) (S := S_b548) (I := I_b548) (fuel := 4000) [] hen ei_187 (e2_fa ((cs_b173 hen l).mono (by decide)) (e2_fa ((cs_b178 hen l).mono (by decide)) (e2_fa ((cs_b179 hen l).mono (by decide)) (e2_fa ((cs_b180 hen l).mono (by decide)) (e2_fa ((cs_b181 hen l).mono (by decide)) (e2_fa ((cs_b182 hen l).mono (by decide)) (e2_fa ((cs_b183 hen l).mono (by decide)) (e2_fa ((cs_b184 hen l).mono (by decide)) (e2_fa ((cs_b185 hen l).mono (by decide)) (e2_fa ((cs_b186 hen l).mono (by decide)) (e2_fa ((cs_b187 hen l).mono (by decide)) (e2_fa ((cs_b188 hen l).mono (by decide)) (e2_fa ((cs_b189 hen l).mono (by decide)) (e2_fa ((cs_b190 hen l).mono (by decide)) (e2_fa ((cs_b191 hen l).mono (by decide)) (e2_fa ((cs_b192 hen l).mono (by decide)) (e2_fa ((cs_b193 hen l).mono (by decide)) (e2_fa ((cs_b194 hen l).mono (by decide)) (e2_fa ((cs_b195 hen l).mono (by decide)) (e2_fa ((cs_b196 hen l).mono (by decide)) (e2_fa ((cs_b197 hen l).mono (by decide)) (e2_fa ((cs_b198 hen l).mono (by decide)) (e2_fa ((cs_b199 hen l).mono (by decide)) (e2_fa ((cs_b217 hen l).mono (by decide)) (e2_fa ((cs_b218 hen l).mono (by decide)) (e2_fa ((cs_b219 hen l).mono (by decide)) (e2_fa ((cs_b220 hen l).mono (by decide)) (e2_fa ((cs_b221 hen l).mono (by decide)) (e2_fa ((cs_b249 hen l).mono (by decide)) (e2_fa ((cs_b250 hen l).mono (by decide)) (e2_fa ((cs_b251 hen l).mono (by decide)) (e2_fa ((cs_b252 hen l).mono (by decide)) (e2_fa ((cs_b253 hen l).mono (by decide)) (e2_fa ((cs_b332 hen l hh).mono (by decide)) (e2_fa ((cs_b333 hen l hh).mono (by decide)) (e2_fa ((cs_b334 hen l hh).mono (by decide)) (e2_fa ((cs_b335 hen l hh).mono (by decide)) (e2_fa ((cs_b336 hen l hh).mono (by decide)) (e2_fa ((cs_b338 hen l).mono (by decide)) (e2_fa ((cs_b341 hen l).mono (by decide)) (e2_fa ((cs_b344 hen l).mono (by decide)) (e2_fa ((cs_b346 hen l).mono (by decide)) (e2_fa ((cs_b348 hen l).mono (by decide)) (e2_fa ((cs_b468 hen l).mono (by decide)) (e2_fa ((cs_b469 hen l).mono (by decide)) (e2_fa ((cs_b470 hen l).mono (by decide)) (e2_fa ((cs_b471 hen l).mono (by decide)) (e2_fa ((cs_b474 hen l).mono (by decide)) (e2_fa (cs_b543 hen l hh) (e2_fa (cs_b544 hen l hh) (e2_fa (cs_b545 hen l hh) (e2_fa (cs_b546 hen l hh) (e2_fa (cs_b547 hen l hh) e2_fz))))))))))))))))))))))))))))))))))))))))))))))))))))) (e2_fa ein_170 (e2_fa ein_173 (e2_fa ein_174 (e2_fa ein_178 (e2_fa ein_179 (e2_fa ein_180 (e2_fa ein_186 e2_fz))))))) (by decide) co_b548 ex2_187 ck_b548
/-! b549 X10_readLine -/
def as_b549 : List ev_V := [(2, 83, 0)]
def E_b549 : e2_E := [(2147483648, 2147583648, 0, 0), (2147483648, 2147483656, 1, 0), (2147483648, 2147485249, 2, 0)]
def bn3548 : e2_Q6 := (bn2645, bn3055)
def bn3549 : e2_Q7 := (bn2644, bn3548)
def bn3550 : e2_Q8 := (bn2642, bn3549)
noncomputable def f_b549 : ev_H := (bn3550 : e2_Q8)
noncomputable def q_b549_0 : ev_H := (bn2653 : e2_Q8)
noncomputable def q_b549_1 : ev_H := (bn2657 : e2_Q8)
noncomputable def q_b549_2 : ev_H := (bn2661 : e2_Q8)
noncomputable def q_b549_3 : ev_H := (bn2665 : e2_Q8)
noncomputable def q_b549_4 : ev_H := (bn2669 : e2_Q8)
noncomputable def q_b549_5 : ev_H := (bn2673 : e2_Q8)
noncomputable def q_b549_6 : ev_H := (bn2677 : e2_Q8)
noncomputable def q_b549_7 : ev_H := (bn2681 : e2_Q8)
noncomputable def q_b549_8 : ev_H := (bn2685 : e2_Q8)
noncomputable def q_b549_9 : ev_H := (bn2689 : e2_Q8)
def bn3551 : e2_Q6 := (bn2690, bn3055)
def bn3552 : e2_Q7 := (bn2644, bn3551)
def bn3553 : e2_Q8 := (bn2642, bn3552)
noncomputable def q_b549_10 : ev_H := (bn3553 : e2_Q8)
noncomputable def rs_b549 : e2_Rs := [((9, 0, 0), q_b549_0), ((9, 0, 0), q_b549_1), ((9, 0, 0), q_b549_2), ((9, 0, 0), q_b549_3), ((9, 0, 0), q_b549_4), ((9, 0, 0), q_b549_5), ((9, 0, 0), q_b549_6), ((9, 0, 0), q_b549_7), ((9, 0, 0), q_b549_8), ((9, 0, 0), q_b549_9), ((9, 0, 0), q_b549_10)]
noncomputable def s_b549 : e2_Sm := (187, as_b549, E_b549, f_b549, rs_b549)
noncomputable def S_b549 : List e2_Sm := [s_b173, s_b178, s_b179, s_b180, s_b181, s_b182, s_b183, s_b184, s_b185, s_b186, s_b187, s_b188, s_b189, s_b190, s_b191, s_b193, s_b194, s_b195, s_b196, s_b197, s_b198, s_b199, s_b217, s_b218, s_b219, s_b220, s_b221, s_b249, s_b250, s_b251, s_b252, s_b253, s_b332, s_b333, s_b334, s_b335, s_b336, s_b338, s_b341, s_b344, s_b346, s_b348, s_b477, s_b479, s_b481, s_b483, s_b487]
noncomputable def I_b549 : List e2_In := [(170, 2, e2x_170), (173, 3, e2x_173), (174, 1, e2x_174), (178, 2, e2x_178), (179, 3, e2x_179), (180, 1, e2x_180), (186, 1, e2x_186)]
set_option maxRecDepth 1000000 in
theorem ck_b549 : e2_run (e2_cal S_b549 I_b549 4000 2) (e2_fin rs_b549) e2x_187 (fun _ => false) (fun _ _ _ _ _ => false) 4000 (e2_seek e2x_187 0) (e2_al 3 as_b549) [] E_b549 f_b549 = true := by decide +kernel
set_option maxRecDepth 1000000 in
theorem co_b549 : e2_okSB E_b549.length as_b549 f_b549 rs_b549 = true := by decide +kernel
theorem cs_b549 (hen : en_ok) (l : Launch) (hh : e2_hand_b l) : e2_smOk l 64 s_b549 := e2_con0 (H := 61) (n := 2) (C := evd_187) (S := S_b549) (I := I_b549) (fuel := 4000) [] hen ei_187 (e2_fa ((cs_b173 hen l).mono (by decide)) (e2_fa ((cs_b178 hen l).mono (by decide)) (e2_fa ((cs_b179 hen l).mono (by decide)) (e2_fa ((cs_b180 hen l).mono (by decide)) (e2_fa ((cs_b181 hen l).mono (by decide)) (e2_fa ((cs_b182 hen l).mono (by decide)) (e2_fa ((cs_b183 hen l).mono (by decide)) (e2_fa ((cs_b184 hen l).mono (by decide)) (e2_fa ((cs_b185 hen l).mono (by decide)) (e2_fa ((cs_b186 hen l).mono (by decide)) (e2_fa ((cs_b187 hen l).mono (by decide)) (e2_fa ((cs_b188 hen l).mono (by decide)) (e2_fa ((cs_b189 hen l).mono (by decide)) (e2_fa ((cs_b190 hen l).mono (by decide)) (e2_fa ((cs_b191 hen l).mono (by decide)) (e2_fa ((cs_b193 hen l).mono (by decide)) (e2_fa ((cs_b194 hen l).mono (by decide)) (e2_fa ((cs_b195 hen l).mono (by decide)) (e2_fa ((cs_b196 hen l).mono (by decide)) (e2_fa ((cs_b197 hen l).mono (by decide)) (e2_fa ((cs_b198 hen l).mono (by decide)) (e2_fa ((cs_b199 hen l).mono (by decide)) (e2_fa ((cs_b217 hen l).mono (by decide)) (e2_fa ((cs_b218 hen l).mono (by decide)) (e2_fa ((cs_b219 hen l).mono (by decide)) (e2_fa ((cs_b220 hen l).mono (by decide)) (e2_fa ((cs_b221 hen l).mono (by decide)) (e2_fa ((cs_b249 hen l).mono (by decide)) (e2_fa ((cs_b250 hen l).mono (by decide)) (e2_fa ((cs_b251 hen l).mono (by decide)) (e2_fa ((cs_b252 hen l).mono (by decide)) (e2_fa ((cs_b253 hen l).mono (by decide)) (e2_fa (cs_b332 hen l hh) (e2_fa (cs_b333 hen l hh) (e2_fa (cs_b334 hen l hh) (e2_fa (cs_b335 hen l hh) (e2_fa (cs_b336 hen l hh) (e2_fa ((cs_b338 hen l).mono (by decide)) (e2_fa ((cs_b341 hen l).mono (by decide)) (e2_fa ((cs_b344 hen l).mono (by decide)) (e2_fa ((cs_b346 hen l).mono (by decide)) (e2_fa ((cs_b348 hen l).mono (by decide)) (e2_fa ((cs_b477 hen l).mono (by decide)) (e2_fa ((cs_b479 hen l).mono (by decide)) (e2_fa ((cs_b481 hen l).mono (by decide)) (e2_fa ((cs_b483 hen l).mono (by decide)) (e2_fa ((cs_b487 hen l).mono (by decide)) e2_fz))))))))))))))))))))))))))))))))))))))))))))))) (e2_fa ein_170 (e2_fa ein_173 (e2_fa ein_174 (e2_fa ein_178 (e2_fa ein_179 (e2_fa ein_180 (e2_fa ein_186 e2_fz))))))) (by decide) co_b549 ex2_187 ck_b549
/-! b550 X10_mown -/
def as_b550 : List ev_V := [(2, 83, 0)]
def E_b550 : e2_E := [(2147483648, 2147583648, 0, 0), (2147483648, 2147483656, 1, 0)]
def bn3554 : e2_Q6 := (bn700, bn338)
def bn3555 : e2_Q6 := (bn93, bn1284)
def bn3556 : e2_Q7 := (bn3554, bn3555)
def bn3557 : e2_Q5 := (bn722, bn365)
def bn3558 : e2_Q6 := (bn3557, bn250)
def bn3559 : e2_Q7 := (bn736, bn3558)
def bn3560 : e2_Q8 := (bn3556, bn3559)
noncomputable def f_b550 : ev_H := (bn3560 : e2_Q8)
noncomputable def q_b550_0 : ev_H := (bn3560 : e2_Q8)
noncomputable def rs_b550 : e2_Rs := [((11, 0, 4294967295), q_b550_0)]
noncomputable def s_b550 : e2_Sm := (221, as_b550, E_b550, f_b550, rs_b550)
noncomputable def S_b550 : List e2_Sm := []
noncomputable def I_b550 : List e2_In := [(216, 1, e2x_216)]
set_option maxRecDepth 1000000 in
theorem co_b550 : e2_okSB E_b550.length as_b550 f_b550 rs_b550 = true := by decide +kernel
def al_b550_0 : List ev_V := [(2, 83, 0), (11, 0, 4294967295), (1, 2, 4294967296)]
def E_b550_0 : e2_E := [(2147483648, 2147583648, 0, 0), (2147483648, 2147483656, 1, 0), (2147483648, 2147483668, 2, 0)]
noncomputable def h_b550_0 : ev_H := (bn3560 : e2_Q8)
noncomputable def cl_b550_e : List (Nat × e2_S) := [(4, e2_cutL (al_b550_0.set 2 (11, 2147483648, 2147483668)) 2 (E_b550_0.take 2) h_b550_0)]
set_option maxRecDepth 1000000 in
theorem ck_b550_e : e2_run (e2_cal S_b550 I_b550 4000 1) (e2_fin rs_b550) e2x_221 (e2_bpL cl_b550_e) (e2_cutA cl_b550_e) 4000 (e2_seek e2x_221 0) (e2_al 3 as_b550) [] E_b550 f_b550 = true := by decide +kernel
noncomputable def cl_b550_0 : List (Nat × e2_S) := [(4, e2_cutL (al_b550_0.set 2 (13, 10, 2147483668)) 2 (E_b550_0.take 2) h_b550_0)]
set_option maxRecDepth 1000000 in
theorem ck_b550_0 : e2_runM (e2_cal S_b550 I_b550 4000 1) (e2_fin rs_b550) e2x_221 (e2_bpL cl_b550_0) (e2_cutA cl_b550_0) 4000 (e2_seek e2x_221 4) al_b550_0 [] E_b550_0 h_b550_0 = true := by decide +kernel
set_option maxRecDepth 1000000 in
theorem ci_b550_0 : e2_idl 2 (al_b550_0.set 2 (9, 0, 0)) = true := by decide +kernel
set_option maxRecDepth 1000000 in
theorem cj_b550_0 : e2_idh 2 8 h_b550_0 = true := by decide +kernel
theorem cs_b550 (hen : en_ok) (l : Launch) : e2_smOk l 2 s_b550 := by
  refine e2_conG (H := 0) (n := 1) (C := evd_221) (S := S_b550) (I := I_b550) (fuel := 4000) hen ei_221 e2_fz (e2_fa ein_216 e2_fz) (by decide) co_b550 fun M d _ hC hcall p e R s m args below meth c Q D cA A ads r0 ha hl0 => ?_
  have L_0 : e2_gdM M p l e R s m args below meth c Q D cA A ads r0 4 al_b550_0 [] E_b550_0 h_b550_0 := by
    refine e2_indL (u := 2) (j := 2) (lo := 2147483648) (hi := 2147483668) (b := 2) (dd := 0) hl0 (by decide) rfl rfl (Or.inr ⟨rfl, rfl⟩) rfl ci_b550_0 cj_b550_0 ?_
    intro r_0 k_0 hk_0 hp_0 hs_0 hn_0
    have hl_0 : r_0.length ≤ 3 := hs_0.len rfl
    have ha_0 := ha.ext hp_0
    exact e2_fromM hen ha_0 hcall (e2_cutA_ok (e2_fa (fun al st E h hc => hn_0 al st E h hc) e2_fz)) (hC []) (X := e2x_221) ex2_221 4 ck_b550_0
  have EN_0 := e2_entL (u := 2) (j := 2) (lo := 2147483648) (hi := 2147483668) hl0 rfl rfl rfl ci_b550_0 cj_b550_0 L_0
  exact e2_from hen ha hcall (e2_cutA_ok (e2_fa (fun al st E h hc => EN_0 al st E h hc) e2_fz)) (hC []) (X := e2x_221) ex2_221 0 ck_b550_e
/-! b551 X10_looks -/
def as_b551 : List ev_V := [(2, 83, 0)]
def E_b551 : e2_E := [(2147483648, 2147583648, 0, 0), (2147483648, 2147483656, 1, 0)]
def bn3561 : e2_Q5 := (bn722, bn790)
def bn3562 : e2_Q6 := (bn3561, bn250)
def bn3563 : e2_Q7 := (bn736, bn3562)
def bn3564 : e2_Q8 := (bn3556, bn3563)
noncomputable def f_b551 : ev_H := (bn3564 : e2_Q8)
noncomputable def q_b551_0 : ev_H := (bn3564 : e2_Q8)
noncomputable def rs_b551 : e2_Rs := [((11, 0, 4294967295), q_b551_0)]
noncomputable def s_b551 : e2_Sm := (222, as_b551, E_b551, f_b551, rs_b551)
noncomputable def S_b551 : List e2_Sm := [s_b550]
noncomputable def I_b551 : List e2_In := []
set_option maxRecDepth 1000000 in
theorem ck_b551 : e2_run (e2_cal S_b551 I_b551 4000 0) (e2_fin rs_b551) e2x_222 (fun _ => false) (fun _ _ _ _ _ => false) 4000 (e2_seek e2x_222 0) (e2_al 1 as_b551) [] E_b551 f_b551 = true := by decide +kernel
set_option maxRecDepth 1000000 in
theorem co_b551 : e2_okSB E_b551.length as_b551 f_b551 rs_b551 = true := by decide +kernel
theorem cs_b551 (hen : en_ok) (l : Launch) : e2_smOk l 3 s_b551 := e2_con0 (H := 2) (n := 0) (C := evd_222) (S := S_b551) (I := I_b551) (fuel := 4000) [] hen ei_222 (e2_fa (cs_b550 hen l) e2_fz) e2_fz (by decide) co_b551 ex2_222 ck_b551
/-! b552 X10_openCells -/
def as_b552 : List ev_V := [(2, 83, 0)]
def E_b552 : e2_E := [(2147483648, 2147583648, 0, 0), (2147483648, 2147483656, 1, 0)]
noncomputable def f_b552 : ev_H := (bn3564 : e2_Q8)
noncomputable def q_b552_0 : ev_H := (bn3564 : e2_Q8)
noncomputable def rs_b552 : e2_Rs := [((11, 0, 4294967295), q_b552_0)]
noncomputable def s_b552 : e2_Sm := (223, as_b552, E_b552, f_b552, rs_b552)
noncomputable def S_b552 : List e2_Sm := [s_b551]
noncomputable def I_b552 : List e2_In := [(216, 1, e2x_216)]
set_option maxRecDepth 1000000 in
theorem ck_b552 : e2_run (e2_cal S_b552 I_b552 4000 1) (e2_fin rs_b552) e2x_223 (fun _ => false) (fun _ _ _ _ _ => false) 4000 (e2_seek e2x_223 0) (e2_al 1 as_b552) [] E_b552 f_b552 = true := by decide +kernel
set_option maxRecDepth 1000000 in
theorem co_b552 : e2_okSB E_b552.length as_b552 f_b552 rs_b552 = true := by decide +kernel
theorem cs_b552 (hen : en_ok) (l : Launch) : e2_smOk l 5 s_b552 := e2_con0 (H := 3) (n := 1) (C := evd_223) (S := S_b552) (I := I_b552) (fuel := 4000) [] hen ei_223 (e2_fa (cs_b551 hen l) e2_fz) (e2_fa ein_216 e2_fz) (by decide) co_b552 ex2_223 ck_b552
/-! b553 X10_layWeights -/
def as_b553 : List ev_V := [(2, 83, 0)]
def E_b553 : e2_E := [(2147483648, 2147583648, 0, 0), (2147483648, 2147483656, 1, 0)]
def bn3565 : e2_Q5 := (bn699, bn751)
def bn3566 : e2_Q6 := (bn3565, bn702)
def bn3567 : e2_Q5 := (bn1393, bn92)
def bn3568 : e2_Q5 := (bn1721, bn343)
def bn3569 : e2_Q6 := (bn3567, bn3568)
def bn3570 : e2_Q7 := (bn3566, bn3569)
def bc257 : ev_C := (54, [(0, 160, 0), (11, 0, 4294967295)])
def bn3571 : e2_Q1 := (bc257, bc3)
def bn3572 : e2_Q2 := (bn137, bn3571)
def bn3573 : e2_Q3 := (bn136, bn3572)
def bn3574 : e2_Q4 := (bn349, bn3573)
def bn3575 : e2_Q5 := (bn3574, bn156)
def bn3576 : e2_Q6 := (bn3575, bn717)
def bn3577 : e2_Q7 := (bn3576, bn729)
def bn3578 : e2_Q8 := (bn3570, bn3577)
noncomputable def f_b553 : ev_H := (bn3578 : e2_Q8)
noncomputable def q_b553_0 : ev_H := (bn3578 : e2_Q8)
noncomputable def rs_b553 : e2_Rs := [((9, 0, 0), q_b553_0)]
noncomputable def s_b553 : e2_Sm := (224, as_b553, E_b553, f_b553, rs_b553)
noncomputable def S_b553 : List e2_Sm := [s_b166]
noncomputable def I_b553 : List e2_In := [(213, 2, e2x_213), (216, 1, e2x_216), (217, 1, e2x_217)]
set_option maxRecDepth 1000000 in
theorem co_b553 : e2_okSB E_b553.length as_b553 f_b553 rs_b553 = true := by decide +kernel
def al_b553_0 : List ev_V := [(2, 83, 0), (1, 2, 4294967296), (9, 0, 0), (9, 0, 0)]
def E_b553_0 : e2_E := [(2147483648, 2147583648, 0, 0), (2147483648, 2147483656, 1, 0), (2147483648, 2147483656, 2, 0)]
noncomputable def h_b553_0 : ev_H := (bn3578 : e2_Q8)
def al_b553_1 : List ev_V := [(2, 83, 0), (1, 2, 4294967296), (11, 2147483648, 2147483655), (1, 3, 4294967296)]
def E_b553_1 : e2_E := [(2147483648, 2147583648, 0, 0), (2147483649, 2147483656, 1, 0), (2147483648, 2147483655, 2, 0), (2147483648, 2147483668, 3, 0)]
noncomputable def h_b553_1 : ev_H := (bn3578 : e2_Q8)
noncomputable def cl_b553_e : List (Nat × e2_S) := [(12, e2_cutL (al_b553_0.set 1 (11, 2147483648, 2147483656)) 2 (E_b553_0.take 2) h_b553_0)]
set_option maxRecDepth 1000000 in
theorem ck_b553_e : e2_run (e2_cal S_b553 I_b553 4000 1) (e2_fin rs_b553) e2x_224 (e2_bpL cl_b553_e) (e2_cutA cl_b553_e) 4000 (e2_seek e2x_224 0) (e2_al 4 as_b553) [] E_b553 f_b553 = true := by decide +kernel
noncomputable def cl_b553_0 : List (Nat × e2_S) := [(60, e2_cutL (al_b553_1.set 3 (11, 2147483648, 2147483668)) 3 (E_b553_1.take 3) h_b553_1)]
set_option maxRecDepth 1000000 in
theorem ck_b553_0 : e2_runM (e2_cal S_b553 I_b553 4000 1) (e2_fin rs_b553) e2x_224 (e2_bpL cl_b553_0) (e2_cutA cl_b553_0) 4000 (e2_seek e2x_224 12) al_b553_0 [] E_b553_0 h_b553_0 = true := by decide +kernel
set_option maxRecDepth 1000000 in
theorem ci_b553_0 : e2_idl 2 (al_b553_0.set 1 (9, 0, 0)) = true := by decide +kernel
set_option maxRecDepth 1000000 in
theorem cj_b553_0 : e2_idh 2 8 h_b553_0 = true := by decide +kernel
noncomputable def cl_b553_1 : List (Nat × e2_S) := [(12, e2_cutL (al_b553_0.set 1 (13, 10, 2147483656)) 2 (E_b553_0.take 2) h_b553_0),
  (60, e2_cutL (al_b553_1.set 3 (13, 11, 2147483668)) 3 (E_b553_1.take 3) h_b553_1)]
set_option maxRecDepth 1000000 in
theorem ck_b553_1 : e2_runM (e2_cal S_b553 I_b553 4000 1) (e2_fin rs_b553) e2x_224 (e2_bpL cl_b553_1) (e2_cutA cl_b553_1) 4000 (e2_seek e2x_224 60) al_b553_1 [] E_b553_1 h_b553_1 = true := by decide +kernel
set_option maxRecDepth 1000000 in
theorem ci_b553_1 : e2_idl 3 (al_b553_1.set 3 (9, 0, 0)) = true := by decide +kernel
set_option maxRecDepth 1000000 in
theorem cj_b553_1 : e2_idh 3 8 h_b553_1 = true := by decide +kernel
theorem cs_b553 (hen : en_ok) (l : Launch) (hh : e2_hand_b l) : e2_smOk l 62 s_b553 := by
  refine e2_conG (H := 60) (n := 1) (C := evd_224) (S := S_b553) (I := I_b553) (fuel := 4000) hen ei_224 (e2_fa (hh _ hm_b166) e2_fz) (e2_fa ein_213 (e2_fa ein_216 (e2_fa ein_217 e2_fz))) (by decide) co_b553 fun M d _ hC hcall p e R s m args below meth c Q D cA A ads r0 ha hl0 => ?_
  have L_0 : e2_gdM M p l e R s m args below meth c Q D cA A ads r0 12 al_b553_0 [] E_b553_0 h_b553_0 := by
    refine e2_indL (u := 2) (j := 1) (lo := 2147483648) (hi := 2147483656) (b := 2) (dd := 0) hl0 (by decide) rfl rfl (Or.inr ⟨rfl, rfl⟩) rfl ci_b553_0 cj_b553_0 ?_
    intro r_0 k_0 hk_0 hp_0 hs_0 hn_0
    have hl_0 : r_0.length ≤ 3 := hs_0.len rfl
    have ha_0 := ha.ext hp_0
    have L_1 : e2_gdM M p l e R s m args below meth c Q D cA A ads r_0 60 al_b553_1 [] E_b553_1 h_b553_1 := by
      refine e2_indL (u := 3) (j := 3) (lo := 2147483648) (hi := 2147483668) (b := 3) (dd := 0) hl_0 (by decide) rfl rfl (Or.inr ⟨rfl, rfl⟩) rfl ci_b553_1 cj_b553_1 ?_
      intro r_1 k_1 hk_1 hp_1 hs_1 hn_1
      have hl_1 : r_1.length ≤ 4 := hs_1.len rfl
      have ha_1 := ha_0.ext hp_1
      exact e2_fromM hen ha_1 hcall (e2_cutA_ok (e2_fa (fun al st E h hc => (hn_0 al st E h hc).ext hp_1) (e2_fa (fun al st E h hc => hn_1 al st E h hc) e2_fz))) (hC []) (X := e2x_224) ex2_224 60 ck_b553_1
    have EN_1 := e2_entL (u := 3) (j := 3) (lo := 2147483648) (hi := 2147483668) hl_0 rfl rfl rfl ci_b553_1 cj_b553_1 L_1
    exact e2_fromM hen ha_0 hcall (e2_cutA_ok (e2_fa (fun al st E h hc => EN_1 al st E h hc) e2_fz)) (hC []) (X := e2x_224) ex2_224 12 ck_b553_0
  have EN_0 := e2_entL (u := 2) (j := 1) (lo := 2147483648) (hi := 2147483656) hl0 rfl rfl rfl ci_b553_0 cj_b553_0 L_0
  exact e2_from hen ha hcall (e2_cutA_ok (e2_fa (fun al st E h hc => EN_0 al st E h hc) e2_fz)) (hC []) (X := e2x_224) ex2_224 0 ck_b553_e
/-! b554 X10_layFrom -/
def as_b554 : List ev_V := [(2, 83, 0), (11, 2147483648, 2147483667), (11, 2147483648, 2147483656), (11, 0, 4294967295)]
def E_b554 : e2_E := [(2147483648, 2147583648, 0, 0), (2147483648, 2147483656, 1, 0)]
def bn3579 : e2_Q4 := (bn21, bn750)
def bn3580 : e2_Q5 := (bn329, bn3579)
def bn3581 : e2_Q6 := (bn3580, bn1584)
def bc258 : ev_C := (54, [(0, 189, 0), (11, 0, 4294967295)])
def bn3582 : e2_Q1 := (bc258, bc3)
def bn3583 : e2_Q2 := (bn73, bn3582)
def bn3584 : e2_Q3 := (bn72, bn3583)
def bn3585 : e2_Q4 := (bn69, bn3584)
def bn3586 : e2_Q5 := (bn3585, bn92)
def bn3587 : e2_Q6 := (bn3586, bn1284)
def bn3588 : e2_Q7 := (bn3581, bn3587)
def bn3589 : e2_Q6 := (bn3575, bn735)
def bn3590 : e2_Q2 := (bn199, bn3582)
def bn3591 : e2_Q3 := (bn720, bn3590)
def bn3592 : e2_Q4 := (bn195, bn3591)
def bn3593 : e2_Q5 := (bn3592, bn365)
def bn3594 : e2_Q6 := (bn3593, bn250)
def bn3595 : e2_Q7 := (bn3589, bn3594)
def bn3596 : e2_Q8 := (bn3588, bn3595)
noncomputable def f_b554 : ev_H := (bn3596 : e2_Q8)
noncomputable def q_b554_0 : ev_H := (bn3596 : e2_Q8)
noncomputable def rs_b554 : e2_Rs := [((9, 0, 0), q_b554_0)]
noncomputable def s_b554 : e2_Sm := (229, as_b554, E_b554, f_b554, rs_b554)
noncomputable def S_b554 : List e2_Sm := []
noncomputable def I_b554 : List e2_In := [(215, 2, e2x_215), (216, 1, e2x_216), (217, 1, e2x_217), (225, 5, e2x_225), (226, 3, e2x_226), (227, 2, e2x_227), (228, 3, e2x_228)]
set_option maxRecDepth 1000000 in
theorem co_b554 : e2_okSB E_b554.length as_b554 f_b554 rs_b554 = true := by decide +kernel
def al_b554_0 : List ev_V := [(2, 83, 0), (11, 2147483648, 2147483667), (11, 2147483648, 2147483656), (11, 0, 4294967295), (11, 2147483648, 2147483827), (1, 2, 4294967296), (9, 0, 0), (9, 0, 0)]
def E_b554_0 : e2_E := [(2147483648, 2147583648, 0, 0), (2147483648, 2147483656, 1, 0), (2147483648, 2147483656, 2, 0)]
noncomputable def h_b554_0 : ev_H := (bn3596 : e2_Q8)
noncomputable def cl_b554_e : List (Nat × e2_S) := [(28, e2_cutL (al_b554_0.set 5 (11, 2147483648, 2147483656)) 2 (E_b554_0.take 2) h_b554_0)]
set_option maxRecDepth 1000000 in
theorem ck_b554_e : e2_run (e2_cal S_b554 I_b554 4000 2) (e2_fin rs_b554) e2x_229 (e2_bpL cl_b554_e) (e2_cutA cl_b554_e) 4000 (e2_seek e2x_229 0) (e2_al 8 as_b554) [] E_b554 f_b554 = true := by decide +kernel
noncomputable def cl_b554_0 : List (Nat × e2_S) := [(28, e2_cutL (al_b554_0.set 5 (13, 10, 2147483656)) 2 (E_b554_0.take 2) h_b554_0)]
set_option maxRecDepth 1000000 in
theorem ck_b554_0 : e2_runM (e2_cal S_b554 I_b554 4000 2) (e2_fin rs_b554) e2x_229 (e2_bpL cl_b554_0) (e2_cutA cl_b554_0) 4000 (e2_seek e2x_229 28) al_b554_0 [] E_b554_0 h_b554_0 = true := by decide +kernel
set_option maxRecDepth 1000000 in
theorem ci_b554_0 : e2_idl 2 (al_b554_0.set 5 (9, 0, 0)) = true := by decide +kernel
set_option maxRecDepth 1000000 in
theorem cj_b554_0 : e2_idh 2 8 h_b554_0 = true := by decide +kernel
theorem cs_b554 (hen : en_ok) (l : Launch) : e2_smOk l 3 s_b554 := by
  refine e2_conG (H := 0) (n := 2) (C := evd_229) (S := S_b554) (I := I_b554) (fuel := 4000) hen ei_229 e2_fz (e2_fa ein_215 (e2_fa ein_216 (e2_fa ein_217 (e2_fa ein_225 (e2_fa ein_226 (e2_fa ein_227 (e2_fa ein_228 e2_fz))))))) (by decide) co_b554 fun M d _ hC hcall p e R s m args below meth c Q D cA A ads r0 ha hl0 => ?_
  have L_0 : e2_gdM M p l e R s m args below meth c Q D cA A ads r0 28 al_b554_0 [] E_b554_0 h_b554_0 := by
    refine e2_indL (u := 2) (j := 5) (lo := 2147483648) (hi := 2147483656) (b := 2) (dd := 0) hl0 (by decide) rfl rfl (Or.inr ⟨rfl, rfl⟩) rfl ci_b554_0 cj_b554_0 ?_
    intro r_0 k_0 hk_0 hp_0 hs_0 hn_0
    have hl_0 : r_0.length ≤ 3 := hs_0.len rfl
    have ha_0 := ha.ext hp_0
    exact e2_fromM hen ha_0 hcall (e2_cutA_ok (e2_fa (fun al st E h hc => hn_0 al st E h hc) e2_fz)) (hC [28, 50]) (X := e2x_229) ex2_229 28 ck_b554_0
  have EN_0 := e2_entL (u := 2) (j := 5) (lo := 2147483648) (hi := 2147483656) hl0 rfl rfl rfl ci_b554_0 cj_b554_0 L_0
  exact e2_from hen ha hcall (e2_cutA_ok (e2_fa (fun al st E h hc => EN_0 al st E h hc) e2_fz)) (hC [28, 50]) (X := e2x_229) ex2_229 0 ck_b554_e
/-! b555 X10_nextAt -/
def as_b555 : List ev_V := [(2, 83, 0), (11, 2147483648, 2147483667), (11, 2147483648, 2147483656), (11, 0, 4294967295)]
def E_b555 : e2_E := [(2147483648, 2147583648, 0, 0), (2147483648, 2147483656, 1, 0), (2147483648, 2147483668, 2, 0)]
def bc259 : ev_C := (10, [(0, 0, 0), (2, 88, 0), (2, 115, 0), (2, 114, 0), (2, 86, 0), (2, 112, 0), (11, 2147483648, 2147483688), (2, 118, 0), (2, 120, 0), (2, 131, 0), (2, 91, 0), (1, 2, 4294967296), (2, 123, 0), (11, 2147483648, 2147483649), (11, 2147483648, 2147485248), (2, 87, 0), (2, 84, 0), (2, 122, 0), (2, 100, 0), (2, 132, 0), (11, 2147483648, 2147483668), (11, 2147483648, 2147485248), (1, 0, 4294967296), (11, 2147483648, 2147483653), (11, 2147483648, 2147485248), (2, 93, 0), (2, 104, 0), (11, 2147483648, 2147483678), (2, 89, 0), (2, 92, 0), (2, 119, 0), (2, 90, 0), (2, 94, 0), (2, 103, 0), (11, 2147483648, 2147483688), (11, 2147483648, 2147549184), (11, 0, 4294967295), (11, 2147483648, 2147485249), (11, 2147483648, 2147483653), (11, 2147483648, 2147483668), (2, 85, 0), (11, 0, 4294967295), (5, 0, 0), (2, 95, 0), (2, 96, 0), (2, 97, 0), (2, 98, 0), (2, 99, 0), (2, 101, 0), (2, 102, 0), (2, 105, 0), (2, 106, 0), (2, 107, 0), (2, 108, 0), (2, 109, 0), (2, 110, 0), (2, 111, 0), (11, 2147483648, 2147484768), (11, 2147482048, 2147483655), (11, 2147483648, 2147483738), (11, 2147483648, 2147483678), (11, 0, 4294967295), (11, 0, 4294967295), (11, 0, 4294967295), (11, 0, 4294967295), (11, 0, 4294967295), (2, 113, 0), (2, 116, 0), (2, 117, 0), (2, 121, 0), (11, 0, 4294967295), (11, 0, 4294967295), (2, 124, 0), (2, 125, 0), (11, 0, 4294967295), (2, 126, 0), (2, 127, 0), (2, 128, 0), (2, 129, 0), (2, 130, 0)])
def bn3597 : e2_Q1 := (bc259, bc3)
def bn3598 : e2_Q2 := (bn196, bn3597)
def bn3599 : e2_Q3 := (bn3598, bn3590)
def bn3600 : e2_Q4 := (bn195, bn3599)
def bn3601 : e2_Q5 := (bn3600, bn365)
def bn3602 : e2_Q6 := (bn3601, bn250)
def bn3603 : e2_Q7 := (bn3589, bn3602)
def bn3604 : e2_Q8 := (bn3588, bn3603)
noncomputable def f_b555 : ev_H := (bn3604 : e2_Q8)
noncomputable def q_b555_0 : ev_H := (bn3604 : e2_Q8)
noncomputable def rs_b555 : e2_Rs := [((12, 9, 2147483647), q_b555_0)]
noncomputable def s_b555 : e2_Sm := (231, as_b555, E_b555, f_b555, rs_b555)
noncomputable def S_b555 : List e2_Sm := []
noncomputable def I_b555 : List e2_In := [(215, 2, e2x_215), (216, 1, e2x_216), (217, 1, e2x_217), (225, 5, e2x_225), (226, 3, e2x_226), (227, 2, e2x_227)]
set_option maxRecDepth 1000000 in
theorem co_b555 : e2_okSB E_b555.length as_b555 f_b555 rs_b555 = true := by decide +kernel
def al_b555_0 : List ev_V := [(2, 83, 0), (11, 2147483648, 2147483667), (11, 2147483648, 2147483656), (11, 0, 4294967295), (1, 3, 4294967296), (9, 0, 0)]
def E_b555_0 : e2_E := [(2147483648, 2147583648, 0, 0), (2147483648, 2147483656, 1, 0), (2147483648, 2147483668, 2, 0), (2147483648, 2147483656, 3, 0)]
noncomputable def h_b555_0 : ev_H := (bn3604 : e2_Q8)
noncomputable def cl_b555_e : List (Nat × e2_S) := [(3, e2_cutL (al_b555_0.set 4 (11, 2147483648, 2147483656)) 3 (E_b555_0.take 3) h_b555_0)]
set_option maxRecDepth 1000000 in
theorem ck_b555_e : e2_run (e2_cal S_b555 I_b555 4000 2) (e2_fin rs_b555) e2x_231 (e2_bpL cl_b555_e) (e2_cutA cl_b555_e) 4000 (e2_seek e2x_231 0) (e2_al 6 as_b555) [] E_b555 f_b555 = true := by decide +kernel
noncomputable def cl_b555_0 : List (Nat × e2_S) := [(3, e2_cutL (al_b555_0.set 4 (13, 11, 2147483656)) 3 (E_b555_0.take 3) h_b555_0)]
set_option maxRecDepth 1000000 in
theorem ck_b555_0 : e2_runM (e2_cal S_b555 I_b555 4000 2) (e2_fin rs_b555) e2x_231 (e2_bpL cl_b555_0) (e2_cutA cl_b555_0) 4000 (e2_seek e2x_231 3) al_b555_0 [] E_b555_0 h_b555_0 = true := by decide +kernel
set_option maxRecDepth 1000000 in
theorem ci_b555_0 : e2_idl 3 (al_b555_0.set 4 (9, 0, 0)) = true := by decide +kernel
set_option maxRecDepth 1000000 in
theorem cj_b555_0 : e2_idh 3 8 h_b555_0 = true := by decide +kernel
theorem cs_b555 (hen : en_ok) (l : Launch) : e2_smOk l 3 s_b555 := by
  refine e2_conG (H := 0) (n := 2) (C := evd_231) (S := S_b555) (I := I_b555) (fuel := 4000) hen ei_231 e2_fz (e2_fa ein_215 (e2_fa ein_216 (e2_fa ein_217 (e2_fa ein_225 (e2_fa ein_226 (e2_fa ein_227 e2_fz)))))) (by decide) co_b555 fun M d _ hC hcall p e R s m args below meth c Q D cA A ads r0 ha hl0 => ?_
  have L_0 : e2_gdM M p l e R s m args below meth c Q D cA A ads r0 3 al_b555_0 [] E_b555_0 h_b555_0 := by
    refine e2_indL (u := 3) (j := 4) (lo := 2147483648) (hi := 2147483656) (b := 3) (dd := 0) hl0 (by decide) rfl rfl (Or.inr ⟨rfl, rfl⟩) rfl ci_b555_0 cj_b555_0 ?_
    intro r_0 k_0 hk_0 hp_0 hs_0 hn_0
    have hl_0 : r_0.length ≤ 4 := hs_0.len rfl
    have ha_0 := ha.ext hp_0
    exact e2_fromM hen ha_0 hcall (e2_cutA_ok (e2_fa (fun al st E h hc => hn_0 al st E h hc) e2_fz)) (hC [3, 25]) (X := e2x_231) ex2_231 3 ck_b555_0
  have EN_0 := e2_entL (u := 3) (j := 4) (lo := 2147483648) (hi := 2147483656) hl0 rfl rfl rfl ci_b555_0 cj_b555_0 L_0
  exact e2_from hen ha hcall (e2_cutA_ok (e2_fa (fun al st E h hc => EN_0 al st E h hc) e2_fz)) (hC [3, 25]) (X := e2x_231) ex2_231 0 ck_b555_e
/-! b556 X10_read -/
def as_b556 : List ev_V := [(2, 83, 0), (11, 0, 4294967295)]
def E_b556 : e2_E := [(2147483648, 2147583648, 0, 0), (2147483648, 2147483648, 1, 0)]
def bc260 : ev_C := (54, [(0, 20, 0), (11, 2147483648, 2147483655)])
def bn3605 : e2_Q1 := (bc260, bc3)
def bn3606 : e2_Q2 := (bn41, bn3605)
def bn3607 : e2_Q3 := (bn40, bn3606)
def bn3608 : e2_Q4 := (bn754, bn3607)
def bn3609 : e2_Q5 := (bn3608, bn337)
def bn3610 : e2_Q6 := (bn3580, bn3609)
def bn3611 : e2_Q7 := (bn3610, bn3587)
def bc261 : ev_C := (50, [(11, 2147483648, 2147483654), (11, 2147483648, 2147483654), (11, 2147483648, 2147483654), (11, 2147483648, 2147483654), (11, 2147483648, 2147483654), (11, 2147483648, 2147483654), (11, 2147483648, 2147483654), (11, 2147483648, 2147483654), (11, 2147483648, 2147483654), (11, 2147483648, 2147483654), (11, 2147483648, 2147483654), (11, 2147483648, 2147483654), (11, 2147483648, 2147483654), (11, 2147483648, 2147483654), (11, 2147483648, 2147483654), (11, 2147483648, 2147483654)])
def bn3612 : e2_Q1 := (bc261, bc3)
def bn3613 : e2_Q2 := (bn130, bn3612)
def bn3614 : e2_Q3 := (bn129, bn3613)
def bn3615 : e2_Q4 := (bn3614, bn3573)
def bn3616 : e2_Q5 := (bn3615, bn156)
def bc262 : ev_C := (54, [(0, 20, 0), (11, 2147483648, 2147483667)])
def bn3617 : e2_Q1 := (bc262, bc3)
def bn3618 : e2_Q2 := (bn168, bn3617)
def bn3619 : e2_Q3 := (bn714, bn3618)
def bn3620 : e2_Q4 := (bn164, bn3619)
def bn3621 : e2_Q5 := (bn3620, bn355)
def bn3622 : e2_Q6 := (bn3616, bn3621)
def bn3623 : e2_Q7 := (bn3622, bn3594)
def bn3624 : e2_Q8 := (bn3611, bn3623)
noncomputable def f_b556 : ev_H := (bn3624 : e2_Q8)
def bc263 : ev_C := (10, [(0, 0, 0), (2, 88, 0), (2, 115, 0), (2, 114, 0), (2, 86, 0), (2, 112, 0), (11, 2147483648, 2147483688), (2, 118, 0), (2, 120, 0), (2, 131, 0), (2, 91, 0), (0, 0, 0), (2, 123, 0), (11, 2147483648, 2147483649), (11, 2147483648, 2147485248), (2, 87, 0), (2, 84, 0), (2, 122, 0), (2, 100, 0), (2, 132, 0), (11, 2147483648, 2147483668), (11, 2147483648, 2147485248), (1, 0, 4294967296), (11, 2147483648, 2147483653), (11, 2147483648, 2147485248), (2, 93, 0), (2, 104, 0), (11, 2147483648, 2147483678), (2, 89, 0), (2, 92, 0), (2, 119, 0), (2, 90, 0), (2, 94, 0), (2, 103, 0), (11, 2147483648, 2147483688), (11, 2147483648, 2147549184), (11, 0, 4294967295), (11, 2147483648, 2147485249), (11, 2147483648, 2147483653), (11, 2147483648, 2147483668), (2, 85, 0), (11, 0, 4294967295), (5, 0, 0), (2, 95, 0), (2, 96, 0), (2, 97, 0), (2, 98, 0), (2, 99, 0), (2, 101, 0), (2, 102, 0), (2, 105, 0), (2, 106, 0), (2, 107, 0), (2, 108, 0), (2, 109, 0), (2, 110, 0), (2, 111, 0), (11, 2147483648, 2147484768), (11, 2147482048, 2147483655), (11, 2147483648, 2147483738), (11, 2147483648, 2147483678), (11, 0, 4294967295), (11, 0, 4294967295), (11, 0, 4294967295), (11, 0, 4294967295), (11, 0, 4294967295), (2, 113, 0), (2, 116, 0), (2, 117, 0), (2, 121, 0), (11, 0, 4294967295), (11, 0, 4294967295), (2, 124, 0), (2, 125, 0), (11, 0, 4294967295), (2, 126, 0), (2, 127, 0), (2, 128, 0), (2, 129, 0), (2, 130, 0)])
def bn3625 : e2_Q1 := (bc263, bc3)
def bn3626 : e2_Q2 := (bn196, bn3625)
def bn3627 : e2_Q3 := (bn3626, bn3590)
def bn3628 : e2_Q4 := (bn195, bn3627)
def bn3629 : e2_Q5 := (bn3628, bn365)
def bn3630 : e2_Q6 := (bn3629, bn250)
def bn3631 : e2_Q7 := (bn3622, bn3630)
def bn3632 : e2_Q8 := (bn3611, bn3631)
noncomputable def q_b556_0 : ev_H := (bn3632 : e2_Q8)
noncomputable def rs_b556 : e2_Rs := [((11, 2147483647, 2147483648), q_b556_0)]
noncomputable def s_b556 : e2_Sm := (230, as_b556, E_b556, f_b556, rs_b556)
noncomputable def S_b556 : List e2_Sm := [s_b554]
noncomputable def I_b556 : List e2_In := [(216, 1, e2x_216), (217, 1, e2x_217), (227, 2, e2x_227)]
noncomputable def Eb_b555 : e2_E := [(2147483648, 2147583648, 0, 0), (2147483648, 2147483656, 1, 0)]
set_option maxRecDepth 1000000 in
theorem cog_b555 : e2_okGB 2 83 11 as_b555 f_b555 rs_b555 = true := by decide +kernel
set_option maxRecDepth 1000000 in
theorem co_b556 : e2_okSB E_b556.length as_b556 f_b556 rs_b556 = true := by decide +kernel
def al_b556_21 : List ev_V := [(2, 83, 0), (11, 0, 4294967295), (1, 2, 4294967296), (9, 0, 0), (9, 0, 0)]
def E_b556_21 : e2_E := [(2147483648, 2147583648, 0, 0), (2147483648, 2147483648, 1, 0), (2147483648, 2147483657, 2, 0)]
noncomputable def h_b556_21 : ev_H := (bn3624 : e2_Q8)
def al_b556_22 : List ev_V := [(2, 83, 0), (11, 0, 4294967295), (1, 2, 4294967296), (9, 0, 0), (9, 0, 0)]
def E_b556_22 : e2_E := [(2147483648, 2147583648, 0, 0), (2147483648, 2147483648, 1, 0), (2147483647, 2147483667, 2, 0)]
noncomputable def h_b556_22 : ev_H := (bn3624 : e2_Q8)
def al_b556_23 : List ev_V := [(2, 83, 0), (11, 0, 4294967295), (1, 2, 4294967296), (1, 3, 4294967296), (9, 0, 0)]
def E_b556_23 : e2_E := [(2147483648, 2147583648, 0, 0), (2147483648, 2147483648, 1, 0), (2147483648, 2147483667, 2, 0), (2147483648, 2147483657, 3, 0)]
noncomputable def h_b556_23 : ev_H := (bn3624 : e2_Q8)
noncomputable def h_b556_0 : ev_H := (bn3632 : e2_Q8)
noncomputable def h_b556_1 : ev_H := (bn3632 : e2_Q8)
noncomputable def h_b556_2 : ev_H := (bn3632 : e2_Q8)
noncomputable def h_b556_3 : ev_H := (bn3632 : e2_Q8)
noncomputable def h_b556_4 : ev_H := (bn3632 : e2_Q8)
noncomputable def h_b556_5 : ev_H := (bn3632 : e2_Q8)
noncomputable def h_b556_6 : ev_H := (bn3632 : e2_Q8)
noncomputable def h_b556_7 : ev_H := (bn3632 : e2_Q8)
noncomputable def h_b556_8 : ev_H := (bn3632 : e2_Q8)
noncomputable def h_b556_9 : ev_H := (bn3632 : e2_Q8)
noncomputable def h_b556_10 : ev_H := (bn3632 : e2_Q8)
noncomputable def h_b556_11 : ev_H := (bn3632 : e2_Q8)
noncomputable def h_b556_12 : ev_H := (bn3632 : e2_Q8)
noncomputable def h_b556_13 : ev_H := (bn3632 : e2_Q8)
noncomputable def h_b556_14 : ev_H := (bn3632 : e2_Q8)
noncomputable def h_b556_15 : ev_H := (bn3632 : e2_Q8)
noncomputable def h_b556_16 : ev_H := (bn3632 : e2_Q8)
noncomputable def h_b556_17 : ev_H := (bn3632 : e2_Q8)
noncomputable def h_b556_18 : ev_H := (bn3632 : e2_Q8)
noncomputable def h_b556_19 : ev_H := (bn3632 : e2_Q8)
noncomputable def h_b556_20 : ev_H := (bn3632 : e2_Q8)
noncomputable def cu_b556_120 : List e2_Cu := [([(2, 83, 0), (11, 0, 4294967295), (0, 0, 0), (0, 8, 0), (9, 0, 0)], [(2147483648, 2147583648, 0, 0), (2147483648, 2147483648, 1, 0)], h_b556_0),
  ([(2, 83, 0), (11, 0, 4294967295), (0, 1, 0), (0, 8, 0), (0, 4294967295, 0)], [(2147483648, 2147583648, 0, 0), (2147483648, 2147483648, 1, 0)], h_b556_1),
  ([(2, 83, 0), (11, 0, 4294967295), (0, 2, 0), (0, 8, 0), (0, 4294967295, 0)], [(2147483648, 2147583648, 0, 0), (2147483648, 2147483648, 1, 0)], h_b556_2),
  ([(2, 83, 0), (11, 0, 4294967295), (0, 3, 0), (0, 8, 0), (0, 4294967295, 0)], [(2147483648, 2147583648, 0, 0), (2147483648, 2147483648, 1, 0)], h_b556_3),
  ([(2, 83, 0), (11, 0, 4294967295), (0, 4, 0), (0, 8, 0), (0, 4294967295, 0)], [(2147483648, 2147583648, 0, 0), (2147483648, 2147483648, 1, 0)], h_b556_4),
  ([(2, 83, 0), (11, 0, 4294967295), (0, 5, 0), (0, 8, 0), (0, 4294967295, 0)], [(2147483648, 2147583648, 0, 0), (2147483648, 2147483648, 1, 0)], h_b556_5),
  ([(2, 83, 0), (11, 0, 4294967295), (0, 6, 0), (0, 8, 0), (0, 4294967295, 0)], [(2147483648, 2147583648, 0, 0), (2147483648, 2147483648, 1, 0)], h_b556_6),
  ([(2, 83, 0), (11, 0, 4294967295), (0, 7, 0), (0, 8, 0), (0, 4294967295, 0)], [(2147483648, 2147583648, 0, 0), (2147483648, 2147483648, 1, 0)], h_b556_7),
  ([(2, 83, 0), (11, 0, 4294967295), (0, 8, 0), (0, 8, 0), (0, 4294967295, 0)], [(2147483648, 2147583648, 0, 0), (2147483648, 2147483648, 1, 0)], h_b556_8),
  ([(2, 83, 0), (11, 0, 4294967295), (0, 9, 0), (0, 8, 0), (0, 4294967295, 0)], [(2147483648, 2147583648, 0, 0), (2147483648, 2147483648, 1, 0)], h_b556_9),
  ([(2, 83, 0), (11, 0, 4294967295), (0, 10, 0), (0, 8, 0), (0, 4294967295, 0)], [(2147483648, 2147583648, 0, 0), (2147483648, 2147483648, 1, 0)], h_b556_10),
  ([(2, 83, 0), (11, 0, 4294967295), (0, 11, 0), (0, 8, 0), (0, 4294967295, 0)], [(2147483648, 2147583648, 0, 0), (2147483648, 2147483648, 1, 0)], h_b556_11),
  ([(2, 83, 0), (11, 0, 4294967295), (0, 12, 0), (0, 8, 0), (0, 4294967295, 0)], [(2147483648, 2147583648, 0, 0), (2147483648, 2147483648, 1, 0)], h_b556_12),
  ([(2, 83, 0), (11, 0, 4294967295), (0, 13, 0), (0, 8, 0), (0, 4294967295, 0)], [(2147483648, 2147583648, 0, 0), (2147483648, 2147483648, 1, 0)], h_b556_13),
  ([(2, 83, 0), (11, 0, 4294967295), (0, 14, 0), (0, 8, 0), (0, 4294967295, 0)], [(2147483648, 2147583648, 0, 0), (2147483648, 2147483648, 1, 0)], h_b556_14),
  ([(2, 83, 0), (11, 0, 4294967295), (0, 15, 0), (0, 8, 0), (0, 4294967295, 0)], [(2147483648, 2147583648, 0, 0), (2147483648, 2147483648, 1, 0)], h_b556_15),
  ([(2, 83, 0), (11, 0, 4294967295), (0, 16, 0), (0, 8, 0), (0, 4294967295, 0)], [(2147483648, 2147583648, 0, 0), (2147483648, 2147483648, 1, 0)], h_b556_16),
  ([(2, 83, 0), (11, 0, 4294967295), (0, 17, 0), (0, 8, 0), (0, 4294967295, 0)], [(2147483648, 2147583648, 0, 0), (2147483648, 2147483648, 1, 0)], h_b556_17),
  ([(2, 83, 0), (11, 0, 4294967295), (0, 18, 0), (0, 8, 0), (0, 4294967295, 0)], [(2147483648, 2147583648, 0, 0), (2147483648, 2147483648, 1, 0)], h_b556_18),
  ([(2, 83, 0), (11, 0, 4294967295), (0, 19, 0), (0, 8, 0), (0, 4294967295, 0)], [(2147483648, 2147583648, 0, 0), (2147483648, 2147483648, 1, 0)], h_b556_19),
  ([(2, 83, 0), (11, 0, 4294967295), (0, 20, 0), (0, 8, 0), (0, 4294967295, 0)], [(2147483648, 2147583648, 0, 0), (2147483648, 2147483648, 1, 0)], h_b556_20)]
noncomputable def cl_b556_e : List (Nat × e2_S) := [(2, e2_cutL (al_b556_21.set 2 (11, 2147483648, 2147483657)) 2 (E_b556_21.take 2) h_b556_21)]
set_option maxRecDepth 1000000 in
theorem ck_b556_e : e2_run (e2_orG 231 83 11 2 2147483648 2147483668 as_b555 Eb_b555 f_b555 rs_b555 (e2_cal S_b556 I_b556 4000 1)) (e2_fin rs_b556) e2x_230 (e2_bpL cl_b556_e) (e2_cutA cl_b556_e) 4000 (e2_seek e2x_230 0) (e2_al 5 as_b556) [] E_b556 f_b556 = true := by decide +kernel
noncomputable def cl_b556_21 : List (Nat × e2_S) := [(2, e2_cutL (al_b556_21.set 2 (13, 10, 2147483657)) 2 (E_b556_21.take 2) h_b556_21),
  (49, e2_cutL (al_b556_22.set 2 (11, 2147483647, 2147483667)) 2 (E_b556_22.take 2) h_b556_22)]
set_option maxRecDepth 1000000 in
theorem ck_b556_21 : e2_runM (e2_orG 231 83 11 2 2147483648 2147483668 as_b555 Eb_b555 f_b555 rs_b555 (e2_cal S_b556 I_b556 4000 1)) (e2_fin rs_b556) e2x_230 (e2_bpL cl_b556_21) (e2_cutA cl_b556_21) 4000 (e2_seek e2x_230 2) al_b556_21 [] E_b556_21 h_b556_21 = true := by decide +kernel
set_option maxRecDepth 1000000 in
theorem ci_b556_21 : e2_idl 2 (al_b556_21.set 2 (9, 0, 0)) = true := by decide +kernel
set_option maxRecDepth 1000000 in
theorem cj_b556_21 : e2_idh 2 8 h_b556_21 = true := by decide +kernel
noncomputable def cl_b556_22 : List (Nat × e2_S) := [(120, e2_cutS cu_b556_120),
  (55, e2_cutL (al_b556_23.set 3 (11, 2147483648, 2147483657)) 3 (E_b556_23.take 3) h_b556_23)]
set_option maxRecDepth 1000000 in
theorem ck_b556_22 : e2_runM (e2_orG 231 83 11 2 2147483648 2147483668 as_b555 Eb_b555 f_b555 rs_b555 (e2_cal S_b556 I_b556 4000 1)) (e2_fin rs_b556) e2x_230 (e2_bpL cl_b556_22) (e2_cutA cl_b556_22) 4000 (e2_seek e2x_230 49) al_b556_22 [] E_b556_22 h_b556_22 = true := by decide +kernel
set_option maxRecDepth 1000000 in
theorem ci_b556_22 : e2_idl 2 (al_b556_22.set 2 (9, 0, 0)) = true := by decide +kernel
set_option maxRecDepth 1000000 in
theorem cj_b556_22 : e2_idh 2 8 h_b556_22 = true := by decide +kernel
noncomputable def cl_b556_23 : List (Nat × e2_S) := [(49, e2_cutL (al_b556_22.set 2 (12, 10, 2147483647)) 2 (E_b556_22.take 2) h_b556_22),
  (55, e2_cutL (al_b556_23.set 3 (13, 11, 2147483657)) 3 (E_b556_23.take 3) h_b556_23)]
set_option maxRecDepth 1000000 in
theorem ck_b556_23 : e2_runM (e2_orG 231 83 11 2 2147483648 2147483668 as_b555 Eb_b555 f_b555 rs_b555 (e2_cal S_b556 I_b556 4000 1)) (e2_fin rs_b556) e2x_230 (e2_bpL cl_b556_23) (e2_cutA cl_b556_23) 4000 (e2_seek e2x_230 55) al_b556_23 [] E_b556_23 h_b556_23 = true := by decide +kernel
set_option maxRecDepth 1000000 in
theorem ci_b556_23 : e2_idl 3 (al_b556_23.set 3 (9, 0, 0)) = true := by decide +kernel
set_option maxRecDepth 1000000 in
theorem cj_b556_23 : e2_idh 3 8 h_b556_23 = true := by decide +kernel
set_option maxRecDepth 1000000 in
theorem ck_b556_u120 : e2_cutsB (e2_orG 231 83 11 2 2147483648 2147483668 as_b555 Eb_b555 f_b555 rs_b555 (e2_cal S_b556 I_b556 4000 1)) (e2_fin rs_b556) e2x_230 120 4000 cu_b556_120 = true := by decide +kernel
theorem cs_b556 (hen : en_ok) (l : Launch) : e2_smOk l 5 s_b556 := by
  refine e2_conC (H := 4) (C := evd_230) ei_230 (fun d hd => (e2_orG_ok (e2_cal_ok hen (e2_fa (cs_b554 hen l) e2_fz) (e2_fa ein_216 (e2_fa ein_217 (e2_fa ein_227 e2_fz))) 1 d (by omega)) rfl (by decide) (fun M hM => (cs_b555 hen l).2 M hM d (by omega)) (e2_okGB_ok cog_b555))) (by decide) co_b556 fun M d _ hC hcall p e R s m args below meth c Q D cA A ads r0 ha hl0 => ?_
  have EN_120 := e2_cutS_ok (bp := 120) (cuts := cu_b556_120) (e2_cuts_len hl0 (by decide +kernel)) (e2_cuts_ok hen ha hcall (hC [192, 195]) (X := e2x_230) ex2_230 (e2_cuts_len hl0 (by decide +kernel)) ck_b556_u120)
  have L_22 : e2_gdM M p l e R s m args below meth c Q D cA A ads r0 49 al_b556_22 [] E_b556_22 h_b556_22 := by
    refine e2_indD (u := 2) (j := 2) (lo := 2147483647) (hi := 2147483667) hl0 (by decide) rfl rfl rfl ci_b556_22 cj_b556_22 ?_
    intro r_22 k_22 hk_22 hp_22 hs_22 hn_22
    have hl_22 : r_22.length ≤ 3 := hs_22.len rfl
    have ha_22 := ha.ext hp_22
    have L_23 : e2_gdM M p l e R s m args below meth c Q D cA A ads r_22 55 al_b556_23 [] E_b556_23 h_b556_23 := by
      refine e2_indL (u := 3) (j := 3) (lo := 2147483648) (hi := 2147483657) (b := 3) (dd := 0) hl_22 (by decide) rfl rfl (Or.inr ⟨rfl, rfl⟩) rfl ci_b556_23 cj_b556_23 ?_
      intro r_23 k_23 hk_23 hp_23 hs_23 hn_23
      have hl_23 : r_23.length ≤ 4 := hs_23.len rfl
      have ha_23 := ha_22.ext hp_23
      exact e2_fromM hen ha_23 hcall (e2_cutA_ok (e2_fa (fun al st E h hc => (hn_22 al st E h hc).ext hp_23) (e2_fa (fun al st E h hc => hn_23 al st E h hc) e2_fz))) (hC [192, 195]) (X := e2x_230) ex2_230 55 ck_b556_23
    have EN_23 := e2_entL (u := 3) (j := 3) (lo := 2147483648) (hi := 2147483657) hl_22 rfl rfl rfl ci_b556_23 cj_b556_23 L_23
    exact e2_fromM hen ha_22 hcall (e2_cutA_ok (e2_fa (fun al st E h hc => (EN_120 al st E h hc).ext hp_22) (e2_fa (fun al st E h hc => EN_23 al st E h hc) e2_fz))) (hC [192, 195]) (X := e2x_230) ex2_230 49 ck_b556_22
  have EN_22 := e2_entL (u := 2) (j := 2) (lo := 2147483647) (hi := 2147483667) hl0 rfl rfl rfl ci_b556_22 cj_b556_22 L_22
  have L_21 : e2_gdM M p l e R s m args below meth c Q D cA A ads r0 2 al_b556_21 [] E_b556_21 h_b556_21 := by
    refine e2_indL (u := 2) (j := 2) (lo := 2147483648) (hi := 2147483657) (b := 2) (dd := 0) hl0 (by decide) rfl rfl (Or.inr ⟨rfl, rfl⟩) rfl ci_b556_21 cj_b556_21 ?_
    intro r_21 k_21 hk_21 hp_21 hs_21 hn_21
    have hl_21 : r_21.length ≤ 3 := hs_21.len rfl
    have ha_21 := ha.ext hp_21
    exact e2_fromM hen ha_21 hcall (e2_cutA_ok (e2_fa (fun al st E h hc => hn_21 al st E h hc) (e2_fa (fun al st E h hc => (EN_22 al st E h hc).ext hp_21) e2_fz))) (hC [192, 195]) (X := e2x_230) ex2_230 2 ck_b556_21
  have EN_21 := e2_entL (u := 2) (j := 2) (lo := 2147483648) (hi := 2147483657) hl0 rfl rfl rfl ci_b556_21 cj_b556_21 L_21
  exact e2_from hen ha hcall (e2_cutA_ok (e2_fa (fun al st E h hc => EN_21 al st E h hc) e2_fz)) (hC [192, 195]) (X := e2x_230) ex2_230 0 ck_b556_e
/-! b557 X10_read -/
def as_b557 : List ev_V := [(2, 83, 0), (11, 0, 4294967295)]
def E_b557 : e2_E := [(2147483648, 2147583648, 0, 0), (2147483649, 2147483649, 1, 0)]
def bc264 : ev_C := (50, [(11, 2147483649, 2147483654), (11, 2147483648, 2147483654), (11, 2147483648, 2147483654), (11, 2147483648, 2147483654), (11, 2147483648, 2147483654), (11, 2147483648, 2147483654), (11, 2147483648, 2147483654), (11, 2147483648, 2147483654), (11, 2147483648, 2147483654), (11, 2147483648, 2147483654), (11, 2147483648, 2147483654), (11, 2147483648, 2147483654), (11, 2147483648, 2147483654), (11, 2147483648, 2147483654), (11, 2147483648, 2147483654), (11, 2147483648, 2147483654)])
def bn3633 : e2_Q1 := (bc264, bc3)
def bn3634 : e2_Q2 := (bn130, bn3633)
def bn3635 : e2_Q3 := (bn129, bn3634)
def bn3636 : e2_Q4 := (bn3635, bn3573)
def bn3637 : e2_Q5 := (bn3636, bn156)
def bn3638 : e2_Q6 := (bn3637, bn3621)
def bn3639 : e2_Q7 := (bn3638, bn3594)
def bn3640 : e2_Q8 := (bn3611, bn3639)
noncomputable def f_b557 : ev_H := (bn3640 : e2_Q8)
noncomputable def q_b557_0 : ev_H := (bn3640 : e2_Q8)
noncomputable def rs_b557 : e2_Rs := [((11, 2147483647, 2147483668), q_b557_0)]
noncomputable def s_b557 : e2_Sm := (230, as_b557, E_b557, f_b557, rs_b557)
noncomputable def S_b557 : List e2_Sm := [s_b554]
noncomputable def I_b557 : List e2_In := [(216, 1, e2x_216), (217, 1, e2x_217), (227, 2, e2x_227)]
set_option maxRecDepth 1000000 in
theorem co_b557 : e2_okSB E_b557.length as_b557 f_b557 rs_b557 = true := by decide +kernel
def al_b557_26 : List ev_V := [(2, 83, 0), (11, 0, 4294967295), (1, 2, 4294967296), (9, 0, 0), (9, 0, 0)]
def E_b557_26 : e2_E := [(2147483648, 2147583648, 0, 0), (2147483649, 2147483649, 1, 0), (2147483648, 2147483657, 2, 0)]
noncomputable def h_b557_26 : ev_H := (bn3640 : e2_Q8)
def al_b557_27 : List ev_V := [(2, 83, 0), (11, 0, 4294967295), (1, 2, 4294967296), (9, 0, 0), (9, 0, 0)]
def E_b557_27 : e2_E := [(2147483648, 2147583648, 0, 0), (2147483649, 2147483649, 1, 0), (2147483647, 2147483667, 2, 0)]
noncomputable def h_b557_27 : ev_H := (bn3640 : e2_Q8)
def al_b557_28 : List ev_V := [(2, 83, 0), (11, 0, 4294967295), (1, 2, 4294967296), (1, 3, 4294967296), (9, 0, 0)]
def E_b557_28 : e2_E := [(2147483648, 2147583648, 0, 0), (2147483649, 2147483649, 1, 0), (2147483648, 2147483667, 2, 0), (2147483648, 2147483657, 3, 0)]
noncomputable def h_b557_28 : ev_H := (bn3640 : e2_Q8)
def bn3641 : e2_Q7 := (bn3638, bn3630)
def bn3642 : e2_Q8 := (bn3611, bn3641)
noncomputable def h_b557_0 : ev_H := (bn3642 : e2_Q8)
def bc265 : ev_C := (10, [(0, 0, 0), (2, 88, 0), (2, 115, 0), (2, 114, 0), (2, 86, 0), (2, 112, 0), (11, 2147483648, 2147483688), (2, 118, 0), (2, 120, 0), (2, 131, 0), (2, 91, 0), (11, 2147483648, 2147483649), (2, 123, 0), (11, 2147483648, 2147483649), (11, 2147483648, 2147485248), (2, 87, 0), (2, 84, 0), (2, 122, 0), (2, 100, 0), (2, 132, 0), (11, 2147483648, 2147483668), (11, 2147483648, 2147485248), (1, 0, 4294967296), (11, 2147483648, 2147483653), (11, 2147483648, 2147485248), (2, 93, 0), (2, 104, 0), (11, 2147483648, 2147483678), (2, 89, 0), (2, 92, 0), (2, 119, 0), (2, 90, 0), (2, 94, 0), (2, 103, 0), (11, 2147483648, 2147483688), (11, 2147483648, 2147549184), (11, 0, 4294967295), (11, 2147483648, 2147485249), (11, 2147483648, 2147483653), (11, 2147483648, 2147483668), (2, 85, 0), (11, 0, 4294967295), (5, 0, 0), (2, 95, 0), (2, 96, 0), (2, 97, 0), (2, 98, 0), (2, 99, 0), (2, 101, 0), (2, 102, 0), (2, 105, 0), (2, 106, 0), (2, 107, 0), (2, 108, 0), (2, 109, 0), (2, 110, 0), (2, 111, 0), (11, 2147483648, 2147484768), (11, 2147482048, 2147483655), (11, 2147483648, 2147483738), (11, 2147483648, 2147483678), (11, 0, 4294967295), (11, 0, 4294967295), (11, 0, 4294967295), (11, 0, 4294967295), (11, 0, 4294967295), (2, 113, 0), (2, 116, 0), (2, 117, 0), (2, 121, 0), (11, 0, 4294967295), (11, 0, 4294967295), (2, 124, 0), (2, 125, 0), (11, 0, 4294967295), (2, 126, 0), (2, 127, 0), (2, 128, 0), (2, 129, 0), (2, 130, 0)])
def bn3643 : e2_Q1 := (bc265, bc3)
def bn3644 : e2_Q2 := (bn196, bn3643)
def bn3645 : e2_Q3 := (bn3644, bn3590)
def bn3646 : e2_Q4 := (bn195, bn3645)
def bn3647 : e2_Q5 := (bn3646, bn365)
def bn3648 : e2_Q6 := (bn3647, bn250)
def bn3649 : e2_Q7 := (bn3638, bn3648)
def bn3650 : e2_Q8 := (bn3611, bn3649)
noncomputable def h_b557_1 : ev_H := (bn3650 : e2_Q8)
def bc266 : ev_C := (10, [(0, 0, 0), (2, 88, 0), (2, 115, 0), (2, 114, 0), (2, 86, 0), (2, 112, 0), (11, 2147483648, 2147483688), (2, 118, 0), (2, 120, 0), (2, 131, 0), (2, 91, 0), (11, 2147483648, 2147483650), (2, 123, 0), (11, 2147483648, 2147483649), (11, 2147483648, 2147485248), (2, 87, 0), (2, 84, 0), (2, 122, 0), (2, 100, 0), (2, 132, 0), (11, 2147483648, 2147483668), (11, 2147483648, 2147485248), (1, 0, 4294967296), (11, 2147483648, 2147483653), (11, 2147483648, 2147485248), (2, 93, 0), (2, 104, 0), (11, 2147483648, 2147483678), (2, 89, 0), (2, 92, 0), (2, 119, 0), (2, 90, 0), (2, 94, 0), (2, 103, 0), (11, 2147483648, 2147483688), (11, 2147483648, 2147549184), (11, 0, 4294967295), (11, 2147483648, 2147485249), (11, 2147483648, 2147483653), (11, 2147483648, 2147483668), (2, 85, 0), (11, 0, 4294967295), (5, 0, 0), (2, 95, 0), (2, 96, 0), (2, 97, 0), (2, 98, 0), (2, 99, 0), (2, 101, 0), (2, 102, 0), (2, 105, 0), (2, 106, 0), (2, 107, 0), (2, 108, 0), (2, 109, 0), (2, 110, 0), (2, 111, 0), (11, 2147483648, 2147484768), (11, 2147482048, 2147483655), (11, 2147483648, 2147483738), (11, 2147483648, 2147483678), (11, 0, 4294967295), (11, 0, 4294967295), (11, 0, 4294967295), (11, 0, 4294967295), (11, 0, 4294967295), (2, 113, 0), (2, 116, 0), (2, 117, 0), (2, 121, 0), (11, 0, 4294967295), (11, 0, 4294967295), (2, 124, 0), (2, 125, 0), (11, 0, 4294967295), (2, 126, 0), (2, 127, 0), (2, 128, 0), (2, 129, 0), (2, 130, 0)])
def bn3651 : e2_Q1 := (bc266, bc3)
def bn3652 : e2_Q2 := (bn196, bn3651)
def bn3653 : e2_Q3 := (bn3652, bn3590)
def bn3654 : e2_Q4 := (bn195, bn3653)
def bn3655 : e2_Q5 := (bn3654, bn365)
def bn3656 : e2_Q6 := (bn3655, bn250)
def bn3657 : e2_Q7 := (bn3638, bn3656)
def bn3658 : e2_Q8 := (bn3611, bn3657)
noncomputable def h_b557_2 : ev_H := (bn3658 : e2_Q8)
def bc267 : ev_C := (10, [(0, 0, 0), (2, 88, 0), (2, 115, 0), (2, 114, 0), (2, 86, 0), (2, 112, 0), (11, 2147483648, 2147483688), (2, 118, 0), (2, 120, 0), (2, 131, 0), (2, 91, 0), (11, 2147483648, 2147483651), (2, 123, 0), (11, 2147483648, 2147483649), (11, 2147483648, 2147485248), (2, 87, 0), (2, 84, 0), (2, 122, 0), (2, 100, 0), (2, 132, 0), (11, 2147483648, 2147483668), (11, 2147483648, 2147485248), (1, 0, 4294967296), (11, 2147483648, 2147483653), (11, 2147483648, 2147485248), (2, 93, 0), (2, 104, 0), (11, 2147483648, 2147483678), (2, 89, 0), (2, 92, 0), (2, 119, 0), (2, 90, 0), (2, 94, 0), (2, 103, 0), (11, 2147483648, 2147483688), (11, 2147483648, 2147549184), (11, 0, 4294967295), (11, 2147483648, 2147485249), (11, 2147483648, 2147483653), (11, 2147483648, 2147483668), (2, 85, 0), (11, 0, 4294967295), (5, 0, 0), (2, 95, 0), (2, 96, 0), (2, 97, 0), (2, 98, 0), (2, 99, 0), (2, 101, 0), (2, 102, 0), (2, 105, 0), (2, 106, 0), (2, 107, 0), (2, 108, 0), (2, 109, 0), (2, 110, 0), (2, 111, 0), (11, 2147483648, 2147484768), (11, 2147482048, 2147483655), (11, 2147483648, 2147483738), (11, 2147483648, 2147483678), (11, 0, 4294967295), (11, 0, 4294967295), (11, 0, 4294967295), (11, 0, 4294967295), (11, 0, 4294967295), (2, 113, 0), (2, 116, 0), (2, 117, 0), (2, 121, 0), (11, 0, 4294967295), (11, 0, 4294967295), (2, 124, 0), (2, 125, 0), (11, 0, 4294967295), (2, 126, 0), (2, 127, 0), (2, 128, 0), (2, 129, 0), (2, 130, 0)])
def bn3659 : e2_Q1 := (bc267, bc3)
def bn3660 : e2_Q2 := (bn196, bn3659)
def bn3661 : e2_Q3 := (bn3660, bn3590)
def bn3662 : e2_Q4 := (bn195, bn3661)
def bn3663 : e2_Q5 := (bn3662, bn365)
def bn3664 : e2_Q6 := (bn3663, bn250)
def bn3665 : e2_Q7 := (bn3638, bn3664)
def bn3666 : e2_Q8 := (bn3611, bn3665)
noncomputable def h_b557_3 : ev_H := (bn3666 : e2_Q8)
def bc268 : ev_C := (10, [(0, 0, 0), (2, 88, 0), (2, 115, 0), (2, 114, 0), (2, 86, 0), (2, 112, 0), (11, 2147483648, 2147483688), (2, 118, 0), (2, 120, 0), (2, 131, 0), (2, 91, 0), (11, 2147483648, 2147483652), (2, 123, 0), (11, 2147483648, 2147483649), (11, 2147483648, 2147485248), (2, 87, 0), (2, 84, 0), (2, 122, 0), (2, 100, 0), (2, 132, 0), (11, 2147483648, 2147483668), (11, 2147483648, 2147485248), (1, 0, 4294967296), (11, 2147483648, 2147483653), (11, 2147483648, 2147485248), (2, 93, 0), (2, 104, 0), (11, 2147483648, 2147483678), (2, 89, 0), (2, 92, 0), (2, 119, 0), (2, 90, 0), (2, 94, 0), (2, 103, 0), (11, 2147483648, 2147483688), (11, 2147483648, 2147549184), (11, 0, 4294967295), (11, 2147483648, 2147485249), (11, 2147483648, 2147483653), (11, 2147483648, 2147483668), (2, 85, 0), (11, 0, 4294967295), (5, 0, 0), (2, 95, 0), (2, 96, 0), (2, 97, 0), (2, 98, 0), (2, 99, 0), (2, 101, 0), (2, 102, 0), (2, 105, 0), (2, 106, 0), (2, 107, 0), (2, 108, 0), (2, 109, 0), (2, 110, 0), (2, 111, 0), (11, 2147483648, 2147484768), (11, 2147482048, 2147483655), (11, 2147483648, 2147483738), (11, 2147483648, 2147483678), (11, 0, 4294967295), (11, 0, 4294967295), (11, 0, 4294967295), (11, 0, 4294967295), (11, 0, 4294967295), (2, 113, 0), (2, 116, 0), (2, 117, 0), (2, 121, 0), (11, 0, 4294967295), (11, 0, 4294967295), (2, 124, 0), (2, 125, 0), (11, 0, 4294967295), (2, 126, 0), (2, 127, 0), (2, 128, 0), (2, 129, 0), (2, 130, 0)])
def bn3667 : e2_Q1 := (bc268, bc3)
def bn3668 : e2_Q2 := (bn196, bn3667)
def bn3669 : e2_Q3 := (bn3668, bn3590)
def bn3670 : e2_Q4 := (bn195, bn3669)
def bn3671 : e2_Q5 := (bn3670, bn365)
def bn3672 : e2_Q6 := (bn3671, bn250)
def bn3673 : e2_Q7 := (bn3638, bn3672)
def bn3674 : e2_Q8 := (bn3611, bn3673)
noncomputable def h_b557_4 : ev_H := (bn3674 : e2_Q8)
def bc269 : ev_C := (10, [(0, 0, 0), (2, 88, 0), (2, 115, 0), (2, 114, 0), (2, 86, 0), (2, 112, 0), (11, 2147483648, 2147483688), (2, 118, 0), (2, 120, 0), (2, 131, 0), (2, 91, 0), (11, 2147483648, 2147483653), (2, 123, 0), (11, 2147483648, 2147483649), (11, 2147483648, 2147485248), (2, 87, 0), (2, 84, 0), (2, 122, 0), (2, 100, 0), (2, 132, 0), (11, 2147483648, 2147483668), (11, 2147483648, 2147485248), (1, 0, 4294967296), (11, 2147483648, 2147483653), (11, 2147483648, 2147485248), (2, 93, 0), (2, 104, 0), (11, 2147483648, 2147483678), (2, 89, 0), (2, 92, 0), (2, 119, 0), (2, 90, 0), (2, 94, 0), (2, 103, 0), (11, 2147483648, 2147483688), (11, 2147483648, 2147549184), (11, 0, 4294967295), (11, 2147483648, 2147485249), (11, 2147483648, 2147483653), (11, 2147483648, 2147483668), (2, 85, 0), (11, 0, 4294967295), (5, 0, 0), (2, 95, 0), (2, 96, 0), (2, 97, 0), (2, 98, 0), (2, 99, 0), (2, 101, 0), (2, 102, 0), (2, 105, 0), (2, 106, 0), (2, 107, 0), (2, 108, 0), (2, 109, 0), (2, 110, 0), (2, 111, 0), (11, 2147483648, 2147484768), (11, 2147482048, 2147483655), (11, 2147483648, 2147483738), (11, 2147483648, 2147483678), (11, 0, 4294967295), (11, 0, 4294967295), (11, 0, 4294967295), (11, 0, 4294967295), (11, 0, 4294967295), (2, 113, 0), (2, 116, 0), (2, 117, 0), (2, 121, 0), (11, 0, 4294967295), (11, 0, 4294967295), (2, 124, 0), (2, 125, 0), (11, 0, 4294967295), (2, 126, 0), (2, 127, 0), (2, 128, 0), (2, 129, 0), (2, 130, 0)])
def bn3675 : e2_Q1 := (bc269, bc3)
def bn3676 : e2_Q2 := (bn196, bn3675)
def bn3677 : e2_Q3 := (bn3676, bn3590)
def bn3678 : e2_Q4 := (bn195, bn3677)
def bn3679 : e2_Q5 := (bn3678, bn365)
def bn3680 : e2_Q6 := (bn3679, bn250)
def bn3681 : e2_Q7 := (bn3638, bn3680)
def bn3682 : e2_Q8 := (bn3611, bn3681)
noncomputable def h_b557_5 : ev_H := (bn3682 : e2_Q8)
def bc270 : ev_C := (10, [(0, 0, 0), (2, 88, 0), (2, 115, 0), (2, 114, 0), (2, 86, 0), (2, 112, 0), (11, 2147483648, 2147483688), (2, 118, 0), (2, 120, 0), (2, 131, 0), (2, 91, 0), (11, 2147483648, 2147483654), (2, 123, 0), (11, 2147483648, 2147483649), (11, 2147483648, 2147485248), (2, 87, 0), (2, 84, 0), (2, 122, 0), (2, 100, 0), (2, 132, 0), (11, 2147483648, 2147483668), (11, 2147483648, 2147485248), (1, 0, 4294967296), (11, 2147483648, 2147483653), (11, 2147483648, 2147485248), (2, 93, 0), (2, 104, 0), (11, 2147483648, 2147483678), (2, 89, 0), (2, 92, 0), (2, 119, 0), (2, 90, 0), (2, 94, 0), (2, 103, 0), (11, 2147483648, 2147483688), (11, 2147483648, 2147549184), (11, 0, 4294967295), (11, 2147483648, 2147485249), (11, 2147483648, 2147483653), (11, 2147483648, 2147483668), (2, 85, 0), (11, 0, 4294967295), (5, 0, 0), (2, 95, 0), (2, 96, 0), (2, 97, 0), (2, 98, 0), (2, 99, 0), (2, 101, 0), (2, 102, 0), (2, 105, 0), (2, 106, 0), (2, 107, 0), (2, 108, 0), (2, 109, 0), (2, 110, 0), (2, 111, 0), (11, 2147483648, 2147484768), (11, 2147482048, 2147483655), (11, 2147483648, 2147483738), (11, 2147483648, 2147483678), (11, 0, 4294967295), (11, 0, 4294967295), (11, 0, 4294967295), (11, 0, 4294967295), (11, 0, 4294967295), (2, 113, 0), (2, 116, 0), (2, 117, 0), (2, 121, 0), (11, 0, 4294967295), (11, 0, 4294967295), (2, 124, 0), (2, 125, 0), (11, 0, 4294967295), (2, 126, 0), (2, 127, 0), (2, 128, 0), (2, 129, 0), (2, 130, 0)])
def bn3683 : e2_Q1 := (bc270, bc3)
def bn3684 : e2_Q2 := (bn196, bn3683)
def bn3685 : e2_Q3 := (bn3684, bn3590)
def bn3686 : e2_Q4 := (bn195, bn3685)
def bn3687 : e2_Q5 := (bn3686, bn365)
def bn3688 : e2_Q6 := (bn3687, bn250)
def bn3689 : e2_Q7 := (bn3638, bn3688)
def bn3690 : e2_Q8 := (bn3611, bn3689)
noncomputable def h_b557_6 : ev_H := (bn3690 : e2_Q8)
def bc271 : ev_C := (10, [(0, 0, 0), (2, 88, 0), (2, 115, 0), (2, 114, 0), (2, 86, 0), (2, 112, 0), (11, 2147483648, 2147483688), (2, 118, 0), (2, 120, 0), (2, 131, 0), (2, 91, 0), (11, 2147483648, 2147483655), (2, 123, 0), (11, 2147483648, 2147483649), (11, 2147483648, 2147485248), (2, 87, 0), (2, 84, 0), (2, 122, 0), (2, 100, 0), (2, 132, 0), (11, 2147483648, 2147483668), (11, 2147483648, 2147485248), (1, 0, 4294967296), (11, 2147483648, 2147483653), (11, 2147483648, 2147485248), (2, 93, 0), (2, 104, 0), (11, 2147483648, 2147483678), (2, 89, 0), (2, 92, 0), (2, 119, 0), (2, 90, 0), (2, 94, 0), (2, 103, 0), (11, 2147483648, 2147483688), (11, 2147483648, 2147549184), (11, 0, 4294967295), (11, 2147483648, 2147485249), (11, 2147483648, 2147483653), (11, 2147483648, 2147483668), (2, 85, 0), (11, 0, 4294967295), (5, 0, 0), (2, 95, 0), (2, 96, 0), (2, 97, 0), (2, 98, 0), (2, 99, 0), (2, 101, 0), (2, 102, 0), (2, 105, 0), (2, 106, 0), (2, 107, 0), (2, 108, 0), (2, 109, 0), (2, 110, 0), (2, 111, 0), (11, 2147483648, 2147484768), (11, 2147482048, 2147483655), (11, 2147483648, 2147483738), (11, 2147483648, 2147483678), (11, 0, 4294967295), (11, 0, 4294967295), (11, 0, 4294967295), (11, 0, 4294967295), (11, 0, 4294967295), (2, 113, 0), (2, 116, 0), (2, 117, 0), (2, 121, 0), (11, 0, 4294967295), (11, 0, 4294967295), (2, 124, 0), (2, 125, 0), (11, 0, 4294967295), (2, 126, 0), (2, 127, 0), (2, 128, 0), (2, 129, 0), (2, 130, 0)])
def bn3691 : e2_Q1 := (bc271, bc3)
def bn3692 : e2_Q2 := (bn196, bn3691)
def bn3693 : e2_Q3 := (bn3692, bn3590)
def bn3694 : e2_Q4 := (bn195, bn3693)
def bn3695 : e2_Q5 := (bn3694, bn365)
def bn3696 : e2_Q6 := (bn3695, bn250)
def bn3697 : e2_Q7 := (bn3638, bn3696)
def bn3698 : e2_Q8 := (bn3611, bn3697)
noncomputable def h_b557_7 : ev_H := (bn3698 : e2_Q8)
def bc272 : ev_C := (10, [(0, 0, 0), (2, 88, 0), (2, 115, 0), (2, 114, 0), (2, 86, 0), (2, 112, 0), (11, 2147483648, 2147483688), (2, 118, 0), (2, 120, 0), (2, 131, 0), (2, 91, 0), (11, 2147483648, 2147483656), (2, 123, 0), (11, 2147483648, 2147483649), (11, 2147483648, 2147485248), (2, 87, 0), (2, 84, 0), (2, 122, 0), (2, 100, 0), (2, 132, 0), (11, 2147483648, 2147483668), (11, 2147483648, 2147485248), (1, 0, 4294967296), (11, 2147483648, 2147483653), (11, 2147483648, 2147485248), (2, 93, 0), (2, 104, 0), (11, 2147483648, 2147483678), (2, 89, 0), (2, 92, 0), (2, 119, 0), (2, 90, 0), (2, 94, 0), (2, 103, 0), (11, 2147483648, 2147483688), (11, 2147483648, 2147549184), (11, 0, 4294967295), (11, 2147483648, 2147485249), (11, 2147483648, 2147483653), (11, 2147483648, 2147483668), (2, 85, 0), (11, 0, 4294967295), (5, 0, 0), (2, 95, 0), (2, 96, 0), (2, 97, 0), (2, 98, 0), (2, 99, 0), (2, 101, 0), (2, 102, 0), (2, 105, 0), (2, 106, 0), (2, 107, 0), (2, 108, 0), (2, 109, 0), (2, 110, 0), (2, 111, 0), (11, 2147483648, 2147484768), (11, 2147482048, 2147483655), (11, 2147483648, 2147483738), (11, 2147483648, 2147483678), (11, 0, 4294967295), (11, 0, 4294967295), (11, 0, 4294967295), (11, 0, 4294967295), (11, 0, 4294967295), (2, 113, 0), (2, 116, 0), (2, 117, 0), (2, 121, 0), (11, 0, 4294967295), (11, 0, 4294967295), (2, 124, 0), (2, 125, 0), (11, 0, 4294967295), (2, 126, 0), (2, 127, 0), (2, 128, 0), (2, 129, 0), (2, 130, 0)])
def bn3699 : e2_Q1 := (bc272, bc3)
def bn3700 : e2_Q2 := (bn196, bn3699)
def bn3701 : e2_Q3 := (bn3700, bn3590)
def bn3702 : e2_Q4 := (bn195, bn3701)
def bn3703 : e2_Q5 := (bn3702, bn365)
def bn3704 : e2_Q6 := (bn3703, bn250)
def bn3705 : e2_Q7 := (bn3638, bn3704)
def bn3706 : e2_Q8 := (bn3611, bn3705)
noncomputable def h_b557_8 : ev_H := (bn3706 : e2_Q8)
def bc273 : ev_C := (10, [(0, 0, 0), (2, 88, 0), (2, 115, 0), (2, 114, 0), (2, 86, 0), (2, 112, 0), (11, 2147483648, 2147483688), (2, 118, 0), (2, 120, 0), (2, 131, 0), (2, 91, 0), (11, 2147483648, 2147483657), (2, 123, 0), (11, 2147483648, 2147483649), (11, 2147483648, 2147485248), (2, 87, 0), (2, 84, 0), (2, 122, 0), (2, 100, 0), (2, 132, 0), (11, 2147483648, 2147483668), (11, 2147483648, 2147485248), (1, 0, 4294967296), (11, 2147483648, 2147483653), (11, 2147483648, 2147485248), (2, 93, 0), (2, 104, 0), (11, 2147483648, 2147483678), (2, 89, 0), (2, 92, 0), (2, 119, 0), (2, 90, 0), (2, 94, 0), (2, 103, 0), (11, 2147483648, 2147483688), (11, 2147483648, 2147549184), (11, 0, 4294967295), (11, 2147483648, 2147485249), (11, 2147483648, 2147483653), (11, 2147483648, 2147483668), (2, 85, 0), (11, 0, 4294967295), (5, 0, 0), (2, 95, 0), (2, 96, 0), (2, 97, 0), (2, 98, 0), (2, 99, 0), (2, 101, 0), (2, 102, 0), (2, 105, 0), (2, 106, 0), (2, 107, 0), (2, 108, 0), (2, 109, 0), (2, 110, 0), (2, 111, 0), (11, 2147483648, 2147484768), (11, 2147482048, 2147483655), (11, 2147483648, 2147483738), (11, 2147483648, 2147483678), (11, 0, 4294967295), (11, 0, 4294967295), (11, 0, 4294967295), (11, 0, 4294967295), (11, 0, 4294967295), (2, 113, 0), (2, 116, 0), (2, 117, 0), (2, 121, 0), (11, 0, 4294967295), (11, 0, 4294967295), (2, 124, 0), (2, 125, 0), (11, 0, 4294967295), (2, 126, 0), (2, 127, 0), (2, 128, 0), (2, 129, 0), (2, 130, 0)])
def bn3707 : e2_Q1 := (bc273, bc3)
def bn3708 : e2_Q2 := (bn196, bn3707)
def bn3709 : e2_Q3 := (bn3708, bn3590)
def bn3710 : e2_Q4 := (bn195, bn3709)
def bn3711 : e2_Q5 := (bn3710, bn365)
def bn3712 : e2_Q6 := (bn3711, bn250)
def bn3713 : e2_Q7 := (bn3638, bn3712)
def bn3714 : e2_Q8 := (bn3611, bn3713)
noncomputable def h_b557_9 : ev_H := (bn3714 : e2_Q8)
def bc274 : ev_C := (10, [(0, 0, 0), (2, 88, 0), (2, 115, 0), (2, 114, 0), (2, 86, 0), (2, 112, 0), (11, 2147483648, 2147483688), (2, 118, 0), (2, 120, 0), (2, 131, 0), (2, 91, 0), (11, 2147483648, 2147483658), (2, 123, 0), (11, 2147483648, 2147483649), (11, 2147483648, 2147485248), (2, 87, 0), (2, 84, 0), (2, 122, 0), (2, 100, 0), (2, 132, 0), (11, 2147483648, 2147483668), (11, 2147483648, 2147485248), (1, 0, 4294967296), (11, 2147483648, 2147483653), (11, 2147483648, 2147485248), (2, 93, 0), (2, 104, 0), (11, 2147483648, 2147483678), (2, 89, 0), (2, 92, 0), (2, 119, 0), (2, 90, 0), (2, 94, 0), (2, 103, 0), (11, 2147483648, 2147483688), (11, 2147483648, 2147549184), (11, 0, 4294967295), (11, 2147483648, 2147485249), (11, 2147483648, 2147483653), (11, 2147483648, 2147483668), (2, 85, 0), (11, 0, 4294967295), (5, 0, 0), (2, 95, 0), (2, 96, 0), (2, 97, 0), (2, 98, 0), (2, 99, 0), (2, 101, 0), (2, 102, 0), (2, 105, 0), (2, 106, 0), (2, 107, 0), (2, 108, 0), (2, 109, 0), (2, 110, 0), (2, 111, 0), (11, 2147483648, 2147484768), (11, 2147482048, 2147483655), (11, 2147483648, 2147483738), (11, 2147483648, 2147483678), (11, 0, 4294967295), (11, 0, 4294967295), (11, 0, 4294967295), (11, 0, 4294967295), (11, 0, 4294967295), (2, 113, 0), (2, 116, 0), (2, 117, 0), (2, 121, 0), (11, 0, 4294967295), (11, 0, 4294967295), (2, 124, 0), (2, 125, 0), (11, 0, 4294967295), (2, 126, 0), (2, 127, 0), (2, 128, 0), (2, 129, 0), (2, 130, 0)])
def bn3715 : e2_Q1 := (bc274, bc3)
def bn3716 : e2_Q2 := (bn196, bn3715)
def bn3717 : e2_Q3 := (bn3716, bn3590)
def bn3718 : e2_Q4 := (bn195, bn3717)
def bn3719 : e2_Q5 := (bn3718, bn365)
def bn3720 : e2_Q6 := (bn3719, bn250)
def bn3721 : e2_Q7 := (bn3638, bn3720)
def bn3722 : e2_Q8 := (bn3611, bn3721)
noncomputable def h_b557_10 : ev_H := (bn3722 : e2_Q8)
def bc275 : ev_C := (10, [(0, 0, 0), (2, 88, 0), (2, 115, 0), (2, 114, 0), (2, 86, 0), (2, 112, 0), (11, 2147483648, 2147483688), (2, 118, 0), (2, 120, 0), (2, 131, 0), (2, 91, 0), (11, 2147483648, 2147483659), (2, 123, 0), (11, 2147483648, 2147483649), (11, 2147483648, 2147485248), (2, 87, 0), (2, 84, 0), (2, 122, 0), (2, 100, 0), (2, 132, 0), (11, 2147483648, 2147483668), (11, 2147483648, 2147485248), (1, 0, 4294967296), (11, 2147483648, 2147483653), (11, 2147483648, 2147485248), (2, 93, 0), (2, 104, 0), (11, 2147483648, 2147483678), (2, 89, 0), (2, 92, 0), (2, 119, 0), (2, 90, 0), (2, 94, 0), (2, 103, 0), (11, 2147483648, 2147483688), (11, 2147483648, 2147549184), (11, 0, 4294967295), (11, 2147483648, 2147485249), (11, 2147483648, 2147483653), (11, 2147483648, 2147483668), (2, 85, 0), (11, 0, 4294967295), (5, 0, 0), (2, 95, 0), (2, 96, 0), (2, 97, 0), (2, 98, 0), (2, 99, 0), (2, 101, 0), (2, 102, 0), (2, 105, 0), (2, 106, 0), (2, 107, 0), (2, 108, 0), (2, 109, 0), (2, 110, 0), (2, 111, 0), (11, 2147483648, 2147484768), (11, 2147482048, 2147483655), (11, 2147483648, 2147483738), (11, 2147483648, 2147483678), (11, 0, 4294967295), (11, 0, 4294967295), (11, 0, 4294967295), (11, 0, 4294967295), (11, 0, 4294967295), (2, 113, 0), (2, 116, 0), (2, 117, 0), (2, 121, 0), (11, 0, 4294967295), (11, 0, 4294967295), (2, 124, 0), (2, 125, 0), (11, 0, 4294967295), (2, 126, 0), (2, 127, 0), (2, 128, 0), (2, 129, 0), (2, 130, 0)])
def bn3723 : e2_Q1 := (bc275, bc3)
def bn3724 : e2_Q2 := (bn196, bn3723)
def bn3725 : e2_Q3 := (bn3724, bn3590)
def bn3726 : e2_Q4 := (bn195, bn3725)
def bn3727 : e2_Q5 := (bn3726, bn365)
def bn3728 : e2_Q6 := (bn3727, bn250)
def bn3729 : e2_Q7 := (bn3638, bn3728)
def bn3730 : e2_Q8 := (bn3611, bn3729)
noncomputable def h_b557_11 : ev_H := (bn3730 : e2_Q8)
def bc276 : ev_C := (10, [(0, 0, 0), (2, 88, 0), (2, 115, 0), (2, 114, 0), (2, 86, 0), (2, 112, 0), (11, 2147483648, 2147483688), (2, 118, 0), (2, 120, 0), (2, 131, 0), (2, 91, 0), (11, 2147483648, 2147483660), (2, 123, 0), (11, 2147483648, 2147483649), (11, 2147483648, 2147485248), (2, 87, 0), (2, 84, 0), (2, 122, 0), (2, 100, 0), (2, 132, 0), (11, 2147483648, 2147483668), (11, 2147483648, 2147485248), (1, 0, 4294967296), (11, 2147483648, 2147483653), (11, 2147483648, 2147485248), (2, 93, 0), (2, 104, 0), (11, 2147483648, 2147483678), (2, 89, 0), (2, 92, 0), (2, 119, 0), (2, 90, 0), (2, 94, 0), (2, 103, 0), (11, 2147483648, 2147483688), (11, 2147483648, 2147549184), (11, 0, 4294967295), (11, 2147483648, 2147485249), (11, 2147483648, 2147483653), (11, 2147483648, 2147483668), (2, 85, 0), (11, 0, 4294967295), (5, 0, 0), (2, 95, 0), (2, 96, 0), (2, 97, 0), (2, 98, 0), (2, 99, 0), (2, 101, 0), (2, 102, 0), (2, 105, 0), (2, 106, 0), (2, 107, 0), (2, 108, 0), (2, 109, 0), (2, 110, 0), (2, 111, 0), (11, 2147483648, 2147484768), (11, 2147482048, 2147483655), (11, 2147483648, 2147483738), (11, 2147483648, 2147483678), (11, 0, 4294967295), (11, 0, 4294967295), (11, 0, 4294967295), (11, 0, 4294967295), (11, 0, 4294967295), (2, 113, 0), (2, 116, 0), (2, 117, 0), (2, 121, 0), (11, 0, 4294967295), (11, 0, 4294967295), (2, 124, 0), (2, 125, 0), (11, 0, 4294967295), (2, 126, 0), (2, 127, 0), (2, 128, 0), (2, 129, 0), (2, 130, 0)])
def bn3731 : e2_Q1 := (bc276, bc3)
def bn3732 : e2_Q2 := (bn196, bn3731)
def bn3733 : e2_Q3 := (bn3732, bn3590)
def bn3734 : e2_Q4 := (bn195, bn3733)
def bn3735 : e2_Q5 := (bn3734, bn365)
def bn3736 : e2_Q6 := (bn3735, bn250)
def bn3737 : e2_Q7 := (bn3638, bn3736)
def bn3738 : e2_Q8 := (bn3611, bn3737)
noncomputable def h_b557_12 : ev_H := (bn3738 : e2_Q8)
def bc277 : ev_C := (10, [(0, 0, 0), (2, 88, 0), (2, 115, 0), (2, 114, 0), (2, 86, 0), (2, 112, 0), (11, 2147483648, 2147483688), (2, 118, 0), (2, 120, 0), (2, 131, 0), (2, 91, 0), (11, 2147483648, 2147483661), (2, 123, 0), (11, 2147483648, 2147483649), (11, 2147483648, 2147485248), (2, 87, 0), (2, 84, 0), (2, 122, 0), (2, 100, 0), (2, 132, 0), (11, 2147483648, 2147483668), (11, 2147483648, 2147485248), (1, 0, 4294967296), (11, 2147483648, 2147483653), (11, 2147483648, 2147485248), (2, 93, 0), (2, 104, 0), (11, 2147483648, 2147483678), (2, 89, 0), (2, 92, 0), (2, 119, 0), (2, 90, 0), (2, 94, 0), (2, 103, 0), (11, 2147483648, 2147483688), (11, 2147483648, 2147549184), (11, 0, 4294967295), (11, 2147483648, 2147485249), (11, 2147483648, 2147483653), (11, 2147483648, 2147483668), (2, 85, 0), (11, 0, 4294967295), (5, 0, 0), (2, 95, 0), (2, 96, 0), (2, 97, 0), (2, 98, 0), (2, 99, 0), (2, 101, 0), (2, 102, 0), (2, 105, 0), (2, 106, 0), (2, 107, 0), (2, 108, 0), (2, 109, 0), (2, 110, 0), (2, 111, 0), (11, 2147483648, 2147484768), (11, 2147482048, 2147483655), (11, 2147483648, 2147483738), (11, 2147483648, 2147483678), (11, 0, 4294967295), (11, 0, 4294967295), (11, 0, 4294967295), (11, 0, 4294967295), (11, 0, 4294967295), (2, 113, 0), (2, 116, 0), (2, 117, 0), (2, 121, 0), (11, 0, 4294967295), (11, 0, 4294967295), (2, 124, 0), (2, 125, 0), (11, 0, 4294967295), (2, 126, 0), (2, 127, 0), (2, 128, 0), (2, 129, 0), (2, 130, 0)])
def bn3739 : e2_Q1 := (bc277, bc3)
def bn3740 : e2_Q2 := (bn196, bn3739)
def bn3741 : e2_Q3 := (bn3740, bn3590)
def bn3742 : e2_Q4 := (bn195, bn3741)
def bn3743 : e2_Q5 := (bn3742, bn365)
def bn3744 : e2_Q6 := (bn3743, bn250)
def bn3745 : e2_Q7 := (bn3638, bn3744)
def bn3746 : e2_Q8 := (bn3611, bn3745)
noncomputable def h_b557_13 : ev_H := (bn3746 : e2_Q8)
def bc278 : ev_C := (10, [(0, 0, 0), (2, 88, 0), (2, 115, 0), (2, 114, 0), (2, 86, 0), (2, 112, 0), (11, 2147483648, 2147483688), (2, 118, 0), (2, 120, 0), (2, 131, 0), (2, 91, 0), (11, 2147483648, 2147483662), (2, 123, 0), (11, 2147483648, 2147483649), (11, 2147483648, 2147485248), (2, 87, 0), (2, 84, 0), (2, 122, 0), (2, 100, 0), (2, 132, 0), (11, 2147483648, 2147483668), (11, 2147483648, 2147485248), (1, 0, 4294967296), (11, 2147483648, 2147483653), (11, 2147483648, 2147485248), (2, 93, 0), (2, 104, 0), (11, 2147483648, 2147483678), (2, 89, 0), (2, 92, 0), (2, 119, 0), (2, 90, 0), (2, 94, 0), (2, 103, 0), (11, 2147483648, 2147483688), (11, 2147483648, 2147549184), (11, 0, 4294967295), (11, 2147483648, 2147485249), (11, 2147483648, 2147483653), (11, 2147483648, 2147483668), (2, 85, 0), (11, 0, 4294967295), (5, 0, 0), (2, 95, 0), (2, 96, 0), (2, 97, 0), (2, 98, 0), (2, 99, 0), (2, 101, 0), (2, 102, 0), (2, 105, 0), (2, 106, 0), (2, 107, 0), (2, 108, 0), (2, 109, 0), (2, 110, 0), (2, 111, 0), (11, 2147483648, 2147484768), (11, 2147482048, 2147483655), (11, 2147483648, 2147483738), (11, 2147483648, 2147483678), (11, 0, 4294967295), (11, 0, 4294967295), (11, 0, 4294967295), (11, 0, 4294967295), (11, 0, 4294967295), (2, 113, 0), (2, 116, 0), (2, 117, 0), (2, 121, 0), (11, 0, 4294967295), (11, 0, 4294967295), (2, 124, 0), (2, 125, 0), (11, 0, 4294967295), (2, 126, 0), (2, 127, 0), (2, 128, 0), (2, 129, 0), (2, 130, 0)])
def bn3747 : e2_Q1 := (bc278, bc3)
def bn3748 : e2_Q2 := (bn196, bn3747)
def bn3749 : e2_Q3 := (bn3748, bn3590)
def bn3750 : e2_Q4 := (bn195, bn3749)
def bn3751 : e2_Q5 := (bn3750, bn365)
def bn3752 : e2_Q6 := (bn3751, bn250)
def bn3753 : e2_Q7 := (bn3638, bn3752)
def bn3754 : e2_Q8 := (bn3611, bn3753)
noncomputable def h_b557_14 : ev_H := (bn3754 : e2_Q8)
def bc279 : ev_C := (10, [(0, 0, 0), (2, 88, 0), (2, 115, 0), (2, 114, 0), (2, 86, 0), (2, 112, 0), (11, 2147483648, 2147483688), (2, 118, 0), (2, 120, 0), (2, 131, 0), (2, 91, 0), (11, 2147483648, 2147483663), (2, 123, 0), (11, 2147483648, 2147483649), (11, 2147483648, 2147485248), (2, 87, 0), (2, 84, 0), (2, 122, 0), (2, 100, 0), (2, 132, 0), (11, 2147483648, 2147483668), (11, 2147483648, 2147485248), (1, 0, 4294967296), (11, 2147483648, 2147483653), (11, 2147483648, 2147485248), (2, 93, 0), (2, 104, 0), (11, 2147483648, 2147483678), (2, 89, 0), (2, 92, 0), (2, 119, 0), (2, 90, 0), (2, 94, 0), (2, 103, 0), (11, 2147483648, 2147483688), (11, 2147483648, 2147549184), (11, 0, 4294967295), (11, 2147483648, 2147485249), (11, 2147483648, 2147483653), (11, 2147483648, 2147483668), (2, 85, 0), (11, 0, 4294967295), (5, 0, 0), (2, 95, 0), (2, 96, 0), (2, 97, 0), (2, 98, 0), (2, 99, 0), (2, 101, 0), (2, 102, 0), (2, 105, 0), (2, 106, 0), (2, 107, 0), (2, 108, 0), (2, 109, 0), (2, 110, 0), (2, 111, 0), (11, 2147483648, 2147484768), (11, 2147482048, 2147483655), (11, 2147483648, 2147483738), (11, 2147483648, 2147483678), (11, 0, 4294967295), (11, 0, 4294967295), (11, 0, 4294967295), (11, 0, 4294967295), (11, 0, 4294967295), (2, 113, 0), (2, 116, 0), (2, 117, 0), (2, 121, 0), (11, 0, 4294967295), (11, 0, 4294967295), (2, 124, 0), (2, 125, 0), (11, 0, 4294967295), (2, 126, 0), (2, 127, 0), (2, 128, 0), (2, 129, 0), (2, 130, 0)])
def bn3755 : e2_Q1 := (bc279, bc3)
def bn3756 : e2_Q2 := (bn196, bn3755)
def bn3757 : e2_Q3 := (bn3756, bn3590)
def bn3758 : e2_Q4 := (bn195, bn3757)
def bn3759 : e2_Q5 := (bn3758, bn365)
def bn3760 : e2_Q6 := (bn3759, bn250)
def bn3761 : e2_Q7 := (bn3638, bn3760)
def bn3762 : e2_Q8 := (bn3611, bn3761)
noncomputable def h_b557_15 : ev_H := (bn3762 : e2_Q8)
def bc280 : ev_C := (10, [(0, 0, 0), (2, 88, 0), (2, 115, 0), (2, 114, 0), (2, 86, 0), (2, 112, 0), (11, 2147483648, 2147483688), (2, 118, 0), (2, 120, 0), (2, 131, 0), (2, 91, 0), (11, 2147483648, 2147483664), (2, 123, 0), (11, 2147483648, 2147483649), (11, 2147483648, 2147485248), (2, 87, 0), (2, 84, 0), (2, 122, 0), (2, 100, 0), (2, 132, 0), (11, 2147483648, 2147483668), (11, 2147483648, 2147485248), (1, 0, 4294967296), (11, 2147483648, 2147483653), (11, 2147483648, 2147485248), (2, 93, 0), (2, 104, 0), (11, 2147483648, 2147483678), (2, 89, 0), (2, 92, 0), (2, 119, 0), (2, 90, 0), (2, 94, 0), (2, 103, 0), (11, 2147483648, 2147483688), (11, 2147483648, 2147549184), (11, 0, 4294967295), (11, 2147483648, 2147485249), (11, 2147483648, 2147483653), (11, 2147483648, 2147483668), (2, 85, 0), (11, 0, 4294967295), (5, 0, 0), (2, 95, 0), (2, 96, 0), (2, 97, 0), (2, 98, 0), (2, 99, 0), (2, 101, 0), (2, 102, 0), (2, 105, 0), (2, 106, 0), (2, 107, 0), (2, 108, 0), (2, 109, 0), (2, 110, 0), (2, 111, 0), (11, 2147483648, 2147484768), (11, 2147482048, 2147483655), (11, 2147483648, 2147483738), (11, 2147483648, 2147483678), (11, 0, 4294967295), (11, 0, 4294967295), (11, 0, 4294967295), (11, 0, 4294967295), (11, 0, 4294967295), (2, 113, 0), (2, 116, 0), (2, 117, 0), (2, 121, 0), (11, 0, 4294967295), (11, 0, 4294967295), (2, 124, 0), (2, 125, 0), (11, 0, 4294967295), (2, 126, 0), (2, 127, 0), (2, 128, 0), (2, 129, 0), (2, 130, 0)])
def bn3763 : e2_Q1 := (bc280, bc3)
def bn3764 : e2_Q2 := (bn196, bn3763)
def bn3765 : e2_Q3 := (bn3764, bn3590)
def bn3766 : e2_Q4 := (bn195, bn3765)
def bn3767 : e2_Q5 := (bn3766, bn365)
def bn3768 : e2_Q6 := (bn3767, bn250)
def bn3769 : e2_Q7 := (bn3638, bn3768)
def bn3770 : e2_Q8 := (bn3611, bn3769)
noncomputable def h_b557_16 : ev_H := (bn3770 : e2_Q8)
def bc281 : ev_C := (10, [(0, 0, 0), (2, 88, 0), (2, 115, 0), (2, 114, 0), (2, 86, 0), (2, 112, 0), (11, 2147483648, 2147483688), (2, 118, 0), (2, 120, 0), (2, 131, 0), (2, 91, 0), (11, 2147483648, 2147483665), (2, 123, 0), (11, 2147483648, 2147483649), (11, 2147483648, 2147485248), (2, 87, 0), (2, 84, 0), (2, 122, 0), (2, 100, 0), (2, 132, 0), (11, 2147483648, 2147483668), (11, 2147483648, 2147485248), (1, 0, 4294967296), (11, 2147483648, 2147483653), (11, 2147483648, 2147485248), (2, 93, 0), (2, 104, 0), (11, 2147483648, 2147483678), (2, 89, 0), (2, 92, 0), (2, 119, 0), (2, 90, 0), (2, 94, 0), (2, 103, 0), (11, 2147483648, 2147483688), (11, 2147483648, 2147549184), (11, 0, 4294967295), (11, 2147483648, 2147485249), (11, 2147483648, 2147483653), (11, 2147483648, 2147483668), (2, 85, 0), (11, 0, 4294967295), (5, 0, 0), (2, 95, 0), (2, 96, 0), (2, 97, 0), (2, 98, 0), (2, 99, 0), (2, 101, 0), (2, 102, 0), (2, 105, 0), (2, 106, 0), (2, 107, 0), (2, 108, 0), (2, 109, 0), (2, 110, 0), (2, 111, 0), (11, 2147483648, 2147484768), (11, 2147482048, 2147483655), (11, 2147483648, 2147483738), (11, 2147483648, 2147483678), (11, 0, 4294967295), (11, 0, 4294967295), (11, 0, 4294967295), (11, 0, 4294967295), (11, 0, 4294967295), (2, 113, 0), (2, 116, 0), (2, 117, 0), (2, 121, 0), (11, 0, 4294967295), (11, 0, 4294967295), (2, 124, 0), (2, 125, 0), (11, 0, 4294967295), (2, 126, 0), (2, 127, 0), (2, 128, 0), (2, 129, 0), (2, 130, 0)])
def bn3771 : e2_Q1 := (bc281, bc3)
def bn3772 : e2_Q2 := (bn196, bn3771)
def bn3773 : e2_Q3 := (bn3772, bn3590)
def bn3774 : e2_Q4 := (bn195, bn3773)
def bn3775 : e2_Q5 := (bn3774, bn365)
def bn3776 : e2_Q6 := (bn3775, bn250)
def bn3777 : e2_Q7 := (bn3638, bn3776)
def bn3778 : e2_Q8 := (bn3611, bn3777)
noncomputable def h_b557_17 : ev_H := (bn3778 : e2_Q8)
def bc282 : ev_C := (10, [(0, 0, 0), (2, 88, 0), (2, 115, 0), (2, 114, 0), (2, 86, 0), (2, 112, 0), (11, 2147483648, 2147483688), (2, 118, 0), (2, 120, 0), (2, 131, 0), (2, 91, 0), (11, 2147483648, 2147483666), (2, 123, 0), (11, 2147483648, 2147483649), (11, 2147483648, 2147485248), (2, 87, 0), (2, 84, 0), (2, 122, 0), (2, 100, 0), (2, 132, 0), (11, 2147483648, 2147483668), (11, 2147483648, 2147485248), (1, 0, 4294967296), (11, 2147483648, 2147483653), (11, 2147483648, 2147485248), (2, 93, 0), (2, 104, 0), (11, 2147483648, 2147483678), (2, 89, 0), (2, 92, 0), (2, 119, 0), (2, 90, 0), (2, 94, 0), (2, 103, 0), (11, 2147483648, 2147483688), (11, 2147483648, 2147549184), (11, 0, 4294967295), (11, 2147483648, 2147485249), (11, 2147483648, 2147483653), (11, 2147483648, 2147483668), (2, 85, 0), (11, 0, 4294967295), (5, 0, 0), (2, 95, 0), (2, 96, 0), (2, 97, 0), (2, 98, 0), (2, 99, 0), (2, 101, 0), (2, 102, 0), (2, 105, 0), (2, 106, 0), (2, 107, 0), (2, 108, 0), (2, 109, 0), (2, 110, 0), (2, 111, 0), (11, 2147483648, 2147484768), (11, 2147482048, 2147483655), (11, 2147483648, 2147483738), (11, 2147483648, 2147483678), (11, 0, 4294967295), (11, 0, 4294967295), (11, 0, 4294967295), (11, 0, 4294967295), (11, 0, 4294967295), (2, 113, 0), (2, 116, 0), (2, 117, 0), (2, 121, 0), (11, 0, 4294967295), (11, 0, 4294967295), (2, 124, 0), (2, 125, 0), (11, 0, 4294967295), (2, 126, 0), (2, 127, 0), (2, 128, 0), (2, 129, 0), (2, 130, 0)])
def bn3779 : e2_Q1 := (bc282, bc3)
def bn3780 : e2_Q2 := (bn196, bn3779)
def bn3781 : e2_Q3 := (bn3780, bn3590)
def bn3782 : e2_Q4 := (bn195, bn3781)
def bn3783 : e2_Q5 := (bn3782, bn365)
def bn3784 : e2_Q6 := (bn3783, bn250)
def bn3785 : e2_Q7 := (bn3638, bn3784)
def bn3786 : e2_Q8 := (bn3611, bn3785)
noncomputable def h_b557_18 : ev_H := (bn3786 : e2_Q8)
def bc283 : ev_C := (10, [(0, 0, 0), (2, 88, 0), (2, 115, 0), (2, 114, 0), (2, 86, 0), (2, 112, 0), (11, 2147483648, 2147483688), (2, 118, 0), (2, 120, 0), (2, 131, 0), (2, 91, 0), (11, 2147483648, 2147483667), (2, 123, 0), (11, 2147483648, 2147483649), (11, 2147483648, 2147485248), (2, 87, 0), (2, 84, 0), (2, 122, 0), (2, 100, 0), (2, 132, 0), (11, 2147483648, 2147483668), (11, 2147483648, 2147485248), (1, 0, 4294967296), (11, 2147483648, 2147483653), (11, 2147483648, 2147485248), (2, 93, 0), (2, 104, 0), (11, 2147483648, 2147483678), (2, 89, 0), (2, 92, 0), (2, 119, 0), (2, 90, 0), (2, 94, 0), (2, 103, 0), (11, 2147483648, 2147483688), (11, 2147483648, 2147549184), (11, 0, 4294967295), (11, 2147483648, 2147485249), (11, 2147483648, 2147483653), (11, 2147483648, 2147483668), (2, 85, 0), (11, 0, 4294967295), (5, 0, 0), (2, 95, 0), (2, 96, 0), (2, 97, 0), (2, 98, 0), (2, 99, 0), (2, 101, 0), (2, 102, 0), (2, 105, 0), (2, 106, 0), (2, 107, 0), (2, 108, 0), (2, 109, 0), (2, 110, 0), (2, 111, 0), (11, 2147483648, 2147484768), (11, 2147482048, 2147483655), (11, 2147483648, 2147483738), (11, 2147483648, 2147483678), (11, 0, 4294967295), (11, 0, 4294967295), (11, 0, 4294967295), (11, 0, 4294967295), (11, 0, 4294967295), (2, 113, 0), (2, 116, 0), (2, 117, 0), (2, 121, 0), (11, 0, 4294967295), (11, 0, 4294967295), (2, 124, 0), (2, 125, 0), (11, 0, 4294967295), (2, 126, 0), (2, 127, 0), (2, 128, 0), (2, 129, 0), (2, 130, 0)])
def bn3787 : e2_Q1 := (bc283, bc3)
def bn3788 : e2_Q2 := (bn196, bn3787)
def bn3789 : e2_Q3 := (bn3788, bn3590)
def bn3790 : e2_Q4 := (bn195, bn3789)
def bn3791 : e2_Q5 := (bn3790, bn365)
def bn3792 : e2_Q6 := (bn3791, bn250)
def bn3793 : e2_Q7 := (bn3638, bn3792)
def bn3794 : e2_Q8 := (bn3611, bn3793)
noncomputable def h_b557_19 : ev_H := (bn3794 : e2_Q8)
noncomputable def h_b557_20 : ev_H := (bn3640 : e2_Q8)
def bc284 : ev_C := (10, [(0, 0, 0), (2, 88, 0), (2, 115, 0), (2, 114, 0), (2, 86, 0), (2, 112, 0), (11, 2147483648, 2147483688), (2, 118, 0), (2, 120, 0), (2, 131, 0), (2, 91, 0), (11, 2147483649, 2147483668), (2, 123, 0), (11, 2147483648, 2147483649), (11, 2147483648, 2147485248), (2, 87, 0), (2, 84, 0), (2, 122, 0), (2, 100, 0), (2, 132, 0), (11, 2147483648, 2147483668), (11, 2147483648, 2147485248), (1, 0, 4294967296), (11, 2147483648, 2147483653), (11, 2147483648, 2147485248), (2, 93, 0), (2, 104, 0), (11, 2147483648, 2147483678), (2, 89, 0), (2, 92, 0), (2, 119, 0), (2, 90, 0), (2, 94, 0), (2, 103, 0), (11, 2147483648, 2147483688), (11, 2147483648, 2147549184), (11, 0, 4294967295), (11, 2147483648, 2147485249), (11, 2147483648, 2147483653), (11, 2147483648, 2147483668), (2, 85, 0), (11, 0, 4294967295), (5, 0, 0), (2, 95, 0), (2, 96, 0), (2, 97, 0), (2, 98, 0), (2, 99, 0), (2, 101, 0), (2, 102, 0), (2, 105, 0), (2, 106, 0), (2, 107, 0), (2, 108, 0), (2, 109, 0), (2, 110, 0), (2, 111, 0), (11, 2147483648, 2147484768), (11, 2147482048, 2147483655), (11, 2147483648, 2147483738), (11, 2147483648, 2147483678), (11, 0, 4294967295), (11, 0, 4294967295), (11, 0, 4294967295), (11, 0, 4294967295), (11, 0, 4294967295), (2, 113, 0), (2, 116, 0), (2, 117, 0), (2, 121, 0), (11, 0, 4294967295), (11, 0, 4294967295), (2, 124, 0), (2, 125, 0), (11, 0, 4294967295), (2, 126, 0), (2, 127, 0), (2, 128, 0), (2, 129, 0), (2, 130, 0)])
def bn3795 : e2_Q1 := (bc284, bc3)
def bn3796 : e2_Q2 := (bn196, bn3795)
def bn3797 : e2_Q3 := (bn3796, bn3590)
def bn3798 : e2_Q4 := (bn195, bn3797)
def bn3799 : e2_Q5 := (bn3798, bn365)
def bn3800 : e2_Q6 := (bn3799, bn250)
def bn3801 : e2_Q7 := (bn3638, bn3800)
def bn3802 : e2_Q8 := (bn3611, bn3801)
noncomputable def h_b557_21 : ev_H := (bn3802 : e2_Q8)
noncomputable def h_b557_22 : ev_H := (bn3802 : e2_Q8)
noncomputable def h_b557_23 : ev_H := (bn3802 : e2_Q8)
noncomputable def h_b557_24 : ev_H := (bn3802 : e2_Q8)
noncomputable def h_b557_25 : ev_H := (bn3802 : e2_Q8)
noncomputable def cu_b557_120 : List e2_Cu := [([(2, 83, 0), (11, 0, 4294967295), (0, 0, 0), (0, 8, 0), (9, 0, 0)], [(2147483648, 2147583648, 0, 0), (2147483649, 2147483649, 1, 0)], h_b557_0),
  ([(2, 83, 0), (11, 0, 4294967295), (0, 1, 0), (11, 2147483648, 2147483656), (11, 2147483647, 2147483648)], [(2147483648, 2147583648, 0, 0), (2147483649, 2147483649, 1, 0)], h_b557_1),
  ([(2, 83, 0), (11, 0, 4294967295), (0, 2, 0), (11, 2147483648, 2147483656), (11, 2147483647, 2147483648)], [(2147483648, 2147583648, 0, 0), (2147483649, 2147483649, 1, 0)], h_b557_2),
  ([(2, 83, 0), (11, 0, 4294967295), (0, 3, 0), (11, 2147483648, 2147483656), (11, 2147483647, 2147483648)], [(2147483648, 2147583648, 0, 0), (2147483649, 2147483649, 1, 0)], h_b557_3),
  ([(2, 83, 0), (11, 0, 4294967295), (0, 4, 0), (11, 2147483648, 2147483656), (11, 2147483647, 2147483648)], [(2147483648, 2147583648, 0, 0), (2147483649, 2147483649, 1, 0)], h_b557_4),
  ([(2, 83, 0), (11, 0, 4294967295), (0, 5, 0), (11, 2147483648, 2147483656), (11, 2147483647, 2147483648)], [(2147483648, 2147583648, 0, 0), (2147483649, 2147483649, 1, 0)], h_b557_5),
  ([(2, 83, 0), (11, 0, 4294967295), (0, 6, 0), (11, 2147483648, 2147483656), (11, 2147483647, 2147483648)], [(2147483648, 2147583648, 0, 0), (2147483649, 2147483649, 1, 0)], h_b557_6),
  ([(2, 83, 0), (11, 0, 4294967295), (0, 7, 0), (11, 2147483648, 2147483656), (11, 2147483647, 2147483648)], [(2147483648, 2147583648, 0, 0), (2147483649, 2147483649, 1, 0)], h_b557_7),
  ([(2, 83, 0), (11, 0, 4294967295), (0, 8, 0), (11, 2147483648, 2147483656), (11, 2147483647, 2147483648)], [(2147483648, 2147583648, 0, 0), (2147483649, 2147483649, 1, 0)], h_b557_8),
  ([(2, 83, 0), (11, 0, 4294967295), (0, 9, 0), (11, 2147483648, 2147483656), (11, 2147483647, 2147483648)], [(2147483648, 2147583648, 0, 0), (2147483649, 2147483649, 1, 0)], h_b557_9),
  ([(2, 83, 0), (11, 0, 4294967295), (0, 10, 0), (11, 2147483648, 2147483656), (11, 2147483647, 2147483648)], [(2147483648, 2147583648, 0, 0), (2147483649, 2147483649, 1, 0)], h_b557_10),
  ([(2, 83, 0), (11, 0, 4294967295), (0, 11, 0), (11, 2147483648, 2147483656), (11, 2147483647, 2147483648)], [(2147483648, 2147583648, 0, 0), (2147483649, 2147483649, 1, 0)], h_b557_11),
  ([(2, 83, 0), (11, 0, 4294967295), (0, 12, 0), (11, 2147483648, 2147483656), (11, 2147483647, 2147483648)], [(2147483648, 2147583648, 0, 0), (2147483649, 2147483649, 1, 0)], h_b557_12),
  ([(2, 83, 0), (11, 0, 4294967295), (0, 13, 0), (11, 2147483648, 2147483656), (11, 2147483647, 2147483648)], [(2147483648, 2147583648, 0, 0), (2147483649, 2147483649, 1, 0)], h_b557_13),
  ([(2, 83, 0), (11, 0, 4294967295), (0, 14, 0), (11, 2147483648, 2147483656), (11, 2147483647, 2147483648)], [(2147483648, 2147583648, 0, 0), (2147483649, 2147483649, 1, 0)], h_b557_14),
  ([(2, 83, 0), (11, 0, 4294967295), (0, 15, 0), (11, 2147483648, 2147483656), (11, 2147483647, 2147483648)], [(2147483648, 2147583648, 0, 0), (2147483649, 2147483649, 1, 0)], h_b557_15),
  ([(2, 83, 0), (11, 0, 4294967295), (0, 16, 0), (11, 2147483648, 2147483656), (11, 2147483647, 2147483648)], [(2147483648, 2147583648, 0, 0), (2147483649, 2147483649, 1, 0)], h_b557_16),
  ([(2, 83, 0), (11, 0, 4294967295), (0, 17, 0), (11, 2147483648, 2147483656), (11, 2147483647, 2147483648)], [(2147483648, 2147583648, 0, 0), (2147483649, 2147483649, 1, 0)], h_b557_17),
  ([(2, 83, 0), (11, 0, 4294967295), (0, 18, 0), (11, 2147483648, 2147483656), (11, 2147483647, 2147483648)], [(2147483648, 2147583648, 0, 0), (2147483649, 2147483649, 1, 0)], h_b557_18),
  ([(2, 83, 0), (11, 0, 4294967295), (0, 19, 0), (11, 2147483648, 2147483656), (11, 2147483647, 2147483648)], [(2147483648, 2147583648, 0, 0), (2147483649, 2147483649, 1, 0)], h_b557_19),
  ([(2, 83, 0), (11, 0, 4294967295), (0, 20, 0), (11, 2147483648, 2147483656), (11, 2147483647, 2147483648)], [(2147483648, 2147583648, 0, 0), (2147483649, 2147483649, 1, 0)], h_b557_20),
  ([(2, 83, 0), (11, 0, 4294967295), (0, 21, 0), (0, 0, 0), (0, 0, 0)], [(2147483648, 2147583648, 0, 0), (2147483649, 2147483649, 1, 0)], h_b557_21),
  ([(2, 83, 0), (11, 0, 4294967295), (0, 22, 0), (0, 0, 0), (0, 0, 0)], [(2147483648, 2147583648, 0, 0), (2147483649, 2147483649, 1, 0)], h_b557_22),
  ([(2, 83, 0), (11, 0, 4294967295), (0, 23, 0), (0, 0, 0), (0, 0, 0)], [(2147483648, 2147583648, 0, 0), (2147483649, 2147483649, 1, 0)], h_b557_23),
  ([(2, 83, 0), (11, 0, 4294967295), (0, 24, 0), (0, 0, 0), (0, 0, 0)], [(2147483648, 2147583648, 0, 0), (2147483649, 2147483649, 1, 0)], h_b557_24),
  ([(2, 83, 0), (11, 0, 4294967295), (0, 25, 0), (0, 0, 0), (0, 0, 0)], [(2147483648, 2147583648, 0, 0), (2147483649, 2147483649, 1, 0)], h_b557_25)]
noncomputable def cl_b557_e : List (Nat × e2_S) := [(2, e2_cutL (al_b557_26.set 2 (11, 2147483648, 2147483657)) 2 (E_b557_26.take 2) h_b557_26)]
set_option maxRecDepth 1000000 in
theorem ck_b557_e : e2_run (e2_orG 231 83 11 2 2147483648 2147483668 as_b555 Eb_b555 f_b555 rs_b555 (e2_cal S_b557 I_b557 4000 1)) (e2_fin rs_b557) e2x_230 (e2_bpL cl_b557_e) (e2_cutA cl_b557_e) 4000 (e2_seek e2x_230 0) (e2_al 5 as_b557) [] E_b557 f_b557 = true := by decide +kernel
noncomputable def cl_b557_26 : List (Nat × e2_S) := [(2, e2_cutL (al_b557_26.set 2 (13, 10, 2147483657)) 2 (E_b557_26.take 2) h_b557_26),
  (49, e2_cutL (al_b557_27.set 2 (11, 2147483647, 2147483667)) 2 (E_b557_27.take 2) h_b557_27)]
set_option maxRecDepth 1000000 in
theorem ck_b557_26 : e2_runM (e2_orG 231 83 11 2 2147483648 2147483668 as_b555 Eb_b555 f_b555 rs_b555 (e2_cal S_b557 I_b557 4000 1)) (e2_fin rs_b557) e2x_230 (e2_bpL cl_b557_26) (e2_cutA cl_b557_26) 4000 (e2_seek e2x_230 2) al_b557_26 [] E_b557_26 h_b557_26 = true := by decide +kernel
set_option maxRecDepth 1000000 in
theorem ci_b557_26 : e2_idl 2 (al_b557_26.set 2 (9, 0, 0)) = true := by decide +kernel
set_option maxRecDepth 1000000 in
theorem cj_b557_26 : e2_idh 2 8 h_b557_26 = true := by decide +kernel
noncomputable def cl_b557_27 : List (Nat × e2_S) := [(120, e2_cutS cu_b557_120),
  (55, e2_cutL (al_b557_28.set 3 (11, 2147483648, 2147483657)) 3 (E_b557_28.take 3) h_b557_28)]
set_option maxRecDepth 1000000 in
theorem ck_b557_27 : e2_runM (e2_orG 231 83 11 2 2147483648 2147483668 as_b555 Eb_b555 f_b555 rs_b555 (e2_cal S_b557 I_b557 4000 1)) (e2_fin rs_b557) e2x_230 (e2_bpL cl_b557_27) (e2_cutA cl_b557_27) 4000 (e2_seek e2x_230 49) al_b557_27 [] E_b557_27 h_b557_27 = true := by decide +kernel
set_option maxRecDepth 1000000 in
theorem ci_b557_27 : e2_idl 2 (al_b557_27.set 2 (9, 0, 0)) = true := by decide +kernel
set_option maxRecDepth 1000000 in
theorem cj_b557_27 : e2_idh 2 8 h_b557_27 = true := by decide +kernel
noncomputable def cl_b557_28 : List (Nat × e2_S) := [(49, e2_cutL (al_b557_27.set 2 (12, 10, 2147483647)) 2 (E_b557_27.take 2) h_b557_27),
  (55, e2_cutL (al_b557_28.set 3 (13, 11, 2147483657)) 3 (E_b557_28.take 3) h_b557_28)]
set_option maxRecDepth 1000000 in
theorem ck_b557_28 : e2_runM (e2_orG 231 83 11 2 2147483648 2147483668 as_b555 Eb_b555 f_b555 rs_b555 (e2_cal S_b557 I_b557 4000 1)) (e2_fin rs_b557) e2x_230 (e2_bpL cl_b557_28) (e2_cutA cl_b557_28) 4000 (e2_seek e2x_230 55) al_b557_28 [] E_b557_28 h_b557_28 = true := by decide +kernel
set_option maxRecDepth 1000000 in
theorem ci_b557_28 : e2_idl 3 (al_b557_28.set 3 (9, 0, 0)) = true := by decide +kernel
set_option maxRecDepth 1000000 in
theorem cj_b557_28 : e2_idh 3 8 h_b557_28 = true := by decide +kernel
set_option maxRecDepth 1000000 in
theorem ck_b557_u120 : e2_cutsB (e2_orG 231 83 11 2 2147483648 2147483668 as_b555 Eb_b555 f_b555 rs_b555 (e2_cal S_b557 I_b557 4000 1)) (e2_fin rs_b557) e2x_230 120 4000 cu_b557_120 = true := by decide +kernel
theorem cs_b557 (hen : en_ok) (l : Launch) : e2_smOk l 5 s_b557 := by
  refine e2_conC (H := 4) (C := evd_230) ei_230 (fun d hd => (e2_orG_ok (e2_cal_ok hen (e2_fa (cs_b554 hen l) e2_fz) (e2_fa ein_216 (e2_fa ein_217 (e2_fa ein_227 e2_fz))) 1 d (by omega)) rfl (by decide) (fun M hM => (cs_b555 hen l).2 M hM d (by omega)) (e2_okGB_ok cog_b555))) (by decide) co_b557 fun M d _ hC hcall p e R s m args below meth c Q D cA A ads r0 ha hl0 => ?_
  have EN_120 := e2_cutS_ok (bp := 120) (cuts := cu_b557_120) (e2_cuts_len hl0 (by decide +kernel)) (e2_cuts_ok hen ha hcall (hC [192, 195]) (X := e2x_230) ex2_230 (e2_cuts_len hl0 (by decide +kernel)) ck_b557_u120)
  have L_27 : e2_gdM M p l e R s m args below meth c Q D cA A ads r0 49 al_b557_27 [] E_b557_27 h_b557_27 := by
    refine e2_indD (u := 2) (j := 2) (lo := 2147483647) (hi := 2147483667) hl0 (by decide) rfl rfl rfl ci_b557_27 cj_b557_27 ?_
    intro r_27 k_27 hk_27 hp_27 hs_27 hn_27
    have hl_27 : r_27.length ≤ 3 := hs_27.len rfl
    have ha_27 := ha.ext hp_27
    have L_28 : e2_gdM M p l e R s m args below meth c Q D cA A ads r_27 55 al_b557_28 [] E_b557_28 h_b557_28 := by
      refine e2_indL (u := 3) (j := 3) (lo := 2147483648) (hi := 2147483657) (b := 3) (dd := 0) hl_27 (by decide) rfl rfl (Or.inr ⟨rfl, rfl⟩) rfl ci_b557_28 cj_b557_28 ?_
      intro r_28 k_28 hk_28 hp_28 hs_28 hn_28
      have hl_28 : r_28.length ≤ 4 := hs_28.len rfl
      have ha_28 := ha_27.ext hp_28
      exact e2_fromM hen ha_28 hcall (e2_cutA_ok (e2_fa (fun al st E h hc => (hn_27 al st E h hc).ext hp_28) (e2_fa (fun al st E h hc => hn_28 al st E h hc) e2_fz))) (hC [192, 195]) (X := e2x_230) ex2_230 55 ck_b557_28
    have EN_28 := e2_entL (u := 3) (j := 3) (lo := 2147483648) (hi := 2147483657) hl_27 rfl rfl rfl ci_b557_28 cj_b557_28 L_28
    exact e2_fromM hen ha_27 hcall (e2_cutA_ok (e2_fa (fun al st E h hc => (EN_120 al st E h hc).ext hp_27) (e2_fa (fun al st E h hc => EN_28 al st E h hc) e2_fz))) (hC [192, 195]) (X := e2x_230) ex2_230 49 ck_b557_27
  have EN_27 := e2_entL (u := 2) (j := 2) (lo := 2147483647) (hi := 2147483667) hl0 rfl rfl rfl ci_b557_27 cj_b557_27 L_27
  have L_26 : e2_gdM M p l e R s m args below meth c Q D cA A ads r0 2 al_b557_26 [] E_b557_26 h_b557_26 := by
    refine e2_indL (u := 2) (j := 2) (lo := 2147483648) (hi := 2147483657) (b := 2) (dd := 0) hl0 (by decide) rfl rfl (Or.inr ⟨rfl, rfl⟩) rfl ci_b557_26 cj_b557_26 ?_
    intro r_26 k_26 hk_26 hp_26 hs_26 hn_26
    have hl_26 : r_26.length ≤ 3 := hs_26.len rfl
    have ha_26 := ha.ext hp_26
    exact e2_fromM hen ha_26 hcall (e2_cutA_ok (e2_fa (fun al st E h hc => hn_26 al st E h hc) (e2_fa (fun al st E h hc => (EN_27 al st E h hc).ext hp_26) e2_fz))) (hC [192, 195]) (X := e2x_230) ex2_230 2 ck_b557_26
  have EN_26 := e2_entL (u := 2) (j := 2) (lo := 2147483648) (hi := 2147483657) hl0 rfl rfl rfl ci_b557_26 cj_b557_26 L_26
  exact e2_from hen ha hcall (e2_cutA_ok (e2_fa (fun al st E h hc => EN_26 al st E h hc) e2_fz)) (hC [192, 195]) (X := e2x_230) ex2_230 0 ck_b557_e
/-! b558 X10_read -/
def as_b558 : List ev_V := [(2, 83, 0), (11, 0, 4294967295)]
def E_b558 : e2_E := [(2147483648, 2147583648, 0, 0), (2147483650, 2147483650, 1, 0)]
def bc285 : ev_C := (50, [(11, 2147483649, 2147483654), (11, 2147483649, 2147483654), (11, 2147483648, 2147483654), (11, 2147483648, 2147483654), (11, 2147483648, 2147483654), (11, 2147483648, 2147483654), (11, 2147483648, 2147483654), (11, 2147483648, 2147483654), (11, 2147483648, 2147483654), (11, 2147483648, 2147483654), (11, 2147483648, 2147483654), (11, 2147483648, 2147483654), (11, 2147483648, 2147483654), (11, 2147483648, 2147483654), (11, 2147483648, 2147483654), (11, 2147483648, 2147483654)])
def bn3803 : e2_Q1 := (bc285, bc3)
def bn3804 : e2_Q2 := (bn130, bn3803)
def bn3805 : e2_Q3 := (bn129, bn3804)
def bn3806 : e2_Q4 := (bn3805, bn3573)
def bn3807 : e2_Q5 := (bn3806, bn156)
def bn3808 : e2_Q6 := (bn3807, bn3621)
def bn3809 : e2_Q7 := (bn3808, bn3594)
def bn3810 : e2_Q8 := (bn3611, bn3809)
noncomputable def f_b558 : ev_H := (bn3810 : e2_Q8)
noncomputable def q_b558_0 : ev_H := (bn3810 : e2_Q8)
noncomputable def rs_b558 : e2_Rs := [((11, 2147483647, 2147483668), q_b558_0)]
noncomputable def s_b558 : e2_Sm := (230, as_b558, E_b558, f_b558, rs_b558)
noncomputable def S_b558 : List e2_Sm := [s_b554]
noncomputable def I_b558 : List e2_In := [(216, 1, e2x_216), (217, 1, e2x_217), (227, 2, e2x_227)]
set_option maxRecDepth 1000000 in
theorem co_b558 : e2_okSB E_b558.length as_b558 f_b558 rs_b558 = true := by decide +kernel
def al_b558_26 : List ev_V := [(2, 83, 0), (11, 0, 4294967295), (1, 2, 4294967296), (9, 0, 0), (9, 0, 0)]
def E_b558_26 : e2_E := [(2147483648, 2147583648, 0, 0), (2147483650, 2147483650, 1, 0), (2147483648, 2147483657, 2, 0)]
noncomputable def h_b558_26 : ev_H := (bn3810 : e2_Q8)
def al_b558_27 : List ev_V := [(2, 83, 0), (11, 0, 4294967295), (1, 2, 4294967296), (9, 0, 0), (9, 0, 0)]
def E_b558_27 : e2_E := [(2147483648, 2147583648, 0, 0), (2147483650, 2147483650, 1, 0), (2147483647, 2147483667, 2, 0)]
noncomputable def h_b558_27 : ev_H := (bn3810 : e2_Q8)
def al_b558_28 : List ev_V := [(2, 83, 0), (11, 0, 4294967295), (1, 2, 4294967296), (1, 3, 4294967296), (9, 0, 0)]
def E_b558_28 : e2_E := [(2147483648, 2147583648, 0, 0), (2147483650, 2147483650, 1, 0), (2147483648, 2147483667, 2, 0), (2147483648, 2147483657, 3, 0)]
noncomputable def h_b558_28 : ev_H := (bn3810 : e2_Q8)
def bn3811 : e2_Q7 := (bn3808, bn3630)
def bn3812 : e2_Q8 := (bn3611, bn3811)
noncomputable def h_b558_0 : ev_H := (bn3812 : e2_Q8)
def bn3813 : e2_Q7 := (bn3808, bn3648)
def bn3814 : e2_Q8 := (bn3611, bn3813)
noncomputable def h_b558_1 : ev_H := (bn3814 : e2_Q8)
def bn3815 : e2_Q7 := (bn3808, bn3656)
def bn3816 : e2_Q8 := (bn3611, bn3815)
noncomputable def h_b558_2 : ev_H := (bn3816 : e2_Q8)
def bn3817 : e2_Q7 := (bn3808, bn3664)
def bn3818 : e2_Q8 := (bn3611, bn3817)
noncomputable def h_b558_3 : ev_H := (bn3818 : e2_Q8)
def bn3819 : e2_Q7 := (bn3808, bn3672)
def bn3820 : e2_Q8 := (bn3611, bn3819)
noncomputable def h_b558_4 : ev_H := (bn3820 : e2_Q8)
def bn3821 : e2_Q7 := (bn3808, bn3680)
def bn3822 : e2_Q8 := (bn3611, bn3821)
noncomputable def h_b558_5 : ev_H := (bn3822 : e2_Q8)
def bn3823 : e2_Q7 := (bn3808, bn3688)
def bn3824 : e2_Q8 := (bn3611, bn3823)
noncomputable def h_b558_6 : ev_H := (bn3824 : e2_Q8)
def bn3825 : e2_Q7 := (bn3808, bn3696)
def bn3826 : e2_Q8 := (bn3611, bn3825)
noncomputable def h_b558_7 : ev_H := (bn3826 : e2_Q8)
def bn3827 : e2_Q7 := (bn3808, bn3704)
def bn3828 : e2_Q8 := (bn3611, bn3827)
noncomputable def h_b558_8 : ev_H := (bn3828 : e2_Q8)
def bn3829 : e2_Q7 := (bn3808, bn3712)
def bn3830 : e2_Q8 := (bn3611, bn3829)
noncomputable def h_b558_9 : ev_H := (bn3830 : e2_Q8)
def bn3831 : e2_Q7 := (bn3808, bn3720)
def bn3832 : e2_Q8 := (bn3611, bn3831)
noncomputable def h_b558_10 : ev_H := (bn3832 : e2_Q8)
def bn3833 : e2_Q7 := (bn3808, bn3728)
def bn3834 : e2_Q8 := (bn3611, bn3833)
noncomputable def h_b558_11 : ev_H := (bn3834 : e2_Q8)
def bn3835 : e2_Q7 := (bn3808, bn3736)
def bn3836 : e2_Q8 := (bn3611, bn3835)
noncomputable def h_b558_12 : ev_H := (bn3836 : e2_Q8)
def bn3837 : e2_Q7 := (bn3808, bn3744)
def bn3838 : e2_Q8 := (bn3611, bn3837)
noncomputable def h_b558_13 : ev_H := (bn3838 : e2_Q8)
def bn3839 : e2_Q7 := (bn3808, bn3752)
def bn3840 : e2_Q8 := (bn3611, bn3839)
noncomputable def h_b558_14 : ev_H := (bn3840 : e2_Q8)
def bn3841 : e2_Q7 := (bn3808, bn3760)
def bn3842 : e2_Q8 := (bn3611, bn3841)
noncomputable def h_b558_15 : ev_H := (bn3842 : e2_Q8)
def bn3843 : e2_Q7 := (bn3808, bn3768)
def bn3844 : e2_Q8 := (bn3611, bn3843)
noncomputable def h_b558_16 : ev_H := (bn3844 : e2_Q8)
def bn3845 : e2_Q7 := (bn3808, bn3776)
def bn3846 : e2_Q8 := (bn3611, bn3845)
noncomputable def h_b558_17 : ev_H := (bn3846 : e2_Q8)
def bn3847 : e2_Q7 := (bn3808, bn3784)
def bn3848 : e2_Q8 := (bn3611, bn3847)
noncomputable def h_b558_18 : ev_H := (bn3848 : e2_Q8)
def bn3849 : e2_Q7 := (bn3808, bn3792)
def bn3850 : e2_Q8 := (bn3611, bn3849)
noncomputable def h_b558_19 : ev_H := (bn3850 : e2_Q8)
noncomputable def h_b558_20 : ev_H := (bn3810 : e2_Q8)
def bn3851 : e2_Q7 := (bn3808, bn3800)
def bn3852 : e2_Q8 := (bn3611, bn3851)
noncomputable def h_b558_21 : ev_H := (bn3852 : e2_Q8)
noncomputable def h_b558_22 : ev_H := (bn3852 : e2_Q8)
noncomputable def h_b558_23 : ev_H := (bn3852 : e2_Q8)
noncomputable def h_b558_24 : ev_H := (bn3852 : e2_Q8)
noncomputable def h_b558_25 : ev_H := (bn3852 : e2_Q8)
noncomputable def cu_b558_120 : List e2_Cu := [([(2, 83, 0), (11, 0, 4294967295), (0, 0, 0), (0, 8, 0), (9, 0, 0)], [(2147483648, 2147583648, 0, 0), (2147483650, 2147483650, 1, 0)], h_b558_0),
  ([(2, 83, 0), (11, 0, 4294967295), (0, 1, 0), (11, 2147483648, 2147483656), (11, 2147483647, 2147483649)], [(2147483648, 2147583648, 0, 0), (2147483650, 2147483650, 1, 0)], h_b558_1),
  ([(2, 83, 0), (11, 0, 4294967295), (0, 2, 0), (11, 2147483648, 2147483656), (11, 2147483647, 2147483649)], [(2147483648, 2147583648, 0, 0), (2147483650, 2147483650, 1, 0)], h_b558_2),
  ([(2, 83, 0), (11, 0, 4294967295), (0, 3, 0), (11, 2147483648, 2147483656), (11, 2147483647, 2147483649)], [(2147483648, 2147583648, 0, 0), (2147483650, 2147483650, 1, 0)], h_b558_3),
  ([(2, 83, 0), (11, 0, 4294967295), (0, 4, 0), (11, 2147483648, 2147483656), (11, 2147483647, 2147483649)], [(2147483648, 2147583648, 0, 0), (2147483650, 2147483650, 1, 0)], h_b558_4),
  ([(2, 83, 0), (11, 0, 4294967295), (0, 5, 0), (11, 2147483648, 2147483656), (11, 2147483647, 2147483649)], [(2147483648, 2147583648, 0, 0), (2147483650, 2147483650, 1, 0)], h_b558_5),
  ([(2, 83, 0), (11, 0, 4294967295), (0, 6, 0), (11, 2147483648, 2147483656), (11, 2147483647, 2147483649)], [(2147483648, 2147583648, 0, 0), (2147483650, 2147483650, 1, 0)], h_b558_6),
  ([(2, 83, 0), (11, 0, 4294967295), (0, 7, 0), (11, 2147483648, 2147483656), (11, 2147483647, 2147483649)], [(2147483648, 2147583648, 0, 0), (2147483650, 2147483650, 1, 0)], h_b558_7),
  ([(2, 83, 0), (11, 0, 4294967295), (0, 8, 0), (11, 2147483648, 2147483656), (11, 2147483647, 2147483649)], [(2147483648, 2147583648, 0, 0), (2147483650, 2147483650, 1, 0)], h_b558_8),
  ([(2, 83, 0), (11, 0, 4294967295), (0, 9, 0), (11, 2147483648, 2147483656), (11, 2147483647, 2147483649)], [(2147483648, 2147583648, 0, 0), (2147483650, 2147483650, 1, 0)], h_b558_9),
  ([(2, 83, 0), (11, 0, 4294967295), (0, 10, 0), (11, 2147483648, 2147483656), (11, 2147483647, 2147483649)], [(2147483648, 2147583648, 0, 0), (2147483650, 2147483650, 1, 0)], h_b558_10),
  ([(2, 83, 0), (11, 0, 4294967295), (0, 11, 0), (11, 2147483648, 2147483656), (11, 2147483647, 2147483649)], [(2147483648, 2147583648, 0, 0), (2147483650, 2147483650, 1, 0)], h_b558_11),
  ([(2, 83, 0), (11, 0, 4294967295), (0, 12, 0), (11, 2147483648, 2147483656), (11, 2147483647, 2147483649)], [(2147483648, 2147583648, 0, 0), (2147483650, 2147483650, 1, 0)], h_b558_12),
  ([(2, 83, 0), (11, 0, 4294967295), (0, 13, 0), (11, 2147483648, 2147483656), (11, 2147483647, 2147483649)], [(2147483648, 2147583648, 0, 0), (2147483650, 2147483650, 1, 0)], h_b558_13),
  ([(2, 83, 0), (11, 0, 4294967295), (0, 14, 0), (11, 2147483648, 2147483656), (11, 2147483647, 2147483649)], [(2147483648, 2147583648, 0, 0), (2147483650, 2147483650, 1, 0)], h_b558_14),
  ([(2, 83, 0), (11, 0, 4294967295), (0, 15, 0), (11, 2147483648, 2147483656), (11, 2147483647, 2147483649)], [(2147483648, 2147583648, 0, 0), (2147483650, 2147483650, 1, 0)], h_b558_15),
  ([(2, 83, 0), (11, 0, 4294967295), (0, 16, 0), (11, 2147483648, 2147483656), (11, 2147483647, 2147483649)], [(2147483648, 2147583648, 0, 0), (2147483650, 2147483650, 1, 0)], h_b558_16),
  ([(2, 83, 0), (11, 0, 4294967295), (0, 17, 0), (11, 2147483648, 2147483656), (11, 2147483647, 2147483649)], [(2147483648, 2147583648, 0, 0), (2147483650, 2147483650, 1, 0)], h_b558_17),
  ([(2, 83, 0), (11, 0, 4294967295), (0, 18, 0), (11, 2147483648, 2147483656), (11, 2147483647, 2147483649)], [(2147483648, 2147583648, 0, 0), (2147483650, 2147483650, 1, 0)], h_b558_18),
  ([(2, 83, 0), (11, 0, 4294967295), (0, 19, 0), (11, 2147483648, 2147483656), (11, 2147483647, 2147483649)], [(2147483648, 2147583648, 0, 0), (2147483650, 2147483650, 1, 0)], h_b558_19),
  ([(2, 83, 0), (11, 0, 4294967295), (0, 20, 0), (11, 2147483648, 2147483656), (11, 2147483647, 2147483649)], [(2147483648, 2147583648, 0, 0), (2147483650, 2147483650, 1, 0)], h_b558_20),
  ([(2, 83, 0), (11, 0, 4294967295), (0, 21, 0), (11, 2147483648, 2147483649), (11, 2147483648, 2147483649)], [(2147483648, 2147583648, 0, 0), (2147483650, 2147483650, 1, 0)], h_b558_21),
  ([(2, 83, 0), (11, 0, 4294967295), (0, 22, 0), (11, 2147483648, 2147483649), (11, 2147483648, 2147483649)], [(2147483648, 2147583648, 0, 0), (2147483650, 2147483650, 1, 0)], h_b558_22),
  ([(2, 83, 0), (11, 0, 4294967295), (0, 23, 0), (11, 2147483648, 2147483649), (11, 2147483648, 2147483649)], [(2147483648, 2147583648, 0, 0), (2147483650, 2147483650, 1, 0)], h_b558_23),
  ([(2, 83, 0), (11, 0, 4294967295), (0, 24, 0), (11, 2147483648, 2147483649), (11, 2147483648, 2147483649)], [(2147483648, 2147583648, 0, 0), (2147483650, 2147483650, 1, 0)], h_b558_24),
  ([(2, 83, 0), (11, 0, 4294967295), (0, 25, 0), (11, 2147483648, 2147483649), (11, 2147483648, 2147483649)], [(2147483648, 2147583648, 0, 0), (2147483650, 2147483650, 1, 0)], h_b558_25)]
noncomputable def cl_b558_e : List (Nat × e2_S) := [(2, e2_cutL (al_b558_26.set 2 (11, 2147483648, 2147483657)) 2 (E_b558_26.take 2) h_b558_26)]
set_option maxRecDepth 1000000 in
theorem ck_b558_e : e2_run (e2_orG 231 83 11 2 2147483648 2147483668 as_b555 Eb_b555 f_b555 rs_b555 (e2_cal S_b558 I_b558 4000 1)) (e2_fin rs_b558) e2x_230 (e2_bpL cl_b558_e) (e2_cutA cl_b558_e) 4000 (e2_seek e2x_230 0) (e2_al 5 as_b558) [] E_b558 f_b558 = true := by decide +kernel
noncomputable def cl_b558_26 : List (Nat × e2_S) := [(2, e2_cutL (al_b558_26.set 2 (13, 10, 2147483657)) 2 (E_b558_26.take 2) h_b558_26),
  (49, e2_cutL (al_b558_27.set 2 (11, 2147483647, 2147483667)) 2 (E_b558_27.take 2) h_b558_27)]
set_option maxRecDepth 1000000 in
theorem ck_b558_26 : e2_runM (e2_orG 231 83 11 2 2147483648 2147483668 as_b555 Eb_b555 f_b555 rs_b555 (e2_cal S_b558 I_b558 4000 1)) (e2_fin rs_b558) e2x_230 (e2_bpL cl_b558_26) (e2_cutA cl_b558_26) 4000 (e2_seek e2x_230 2) al_b558_26 [] E_b558_26 h_b558_26 = true := by decide +kernel
set_option maxRecDepth 1000000 in
theorem ci_b558_26 : e2_idl 2 (al_b558_26.set 2 (9, 0, 0)) = true := by decide +kernel
set_option maxRecDepth 1000000 in
theorem cj_b558_26 : e2_idh 2 8 h_b558_26 = true := by decide +kernel
noncomputable def cl_b558_27 : List (Nat × e2_S) := [(120, e2_cutS cu_b558_120),
  (55, e2_cutL (al_b558_28.set 3 (11, 2147483648, 2147483657)) 3 (E_b558_28.take 3) h_b558_28)]
set_option maxRecDepth 1000000 in
theorem ck_b558_27 : e2_runM (e2_orG 231 83 11 2 2147483648 2147483668 as_b555 Eb_b555 f_b555 rs_b555 (e2_cal S_b558 I_b558 4000 1)) (e2_fin rs_b558) e2x_230 (e2_bpL cl_b558_27) (e2_cutA cl_b558_27) 4000 (e2_seek e2x_230 49) al_b558_27 [] E_b558_27 h_b558_27 = true := by decide +kernel
set_option maxRecDepth 1000000 in
theorem ci_b558_27 : e2_idl 2 (al_b558_27.set 2 (9, 0, 0)) = true := by decide +kernel
set_option maxRecDepth 1000000 in
theorem cj_b558_27 : e2_idh 2 8 h_b558_27 = true := by decide +kernel
noncomputable def cl_b558_28 : List (Nat × e2_S) := [(49, e2_cutL (al_b558_27.set 2 (12, 10, 2147483647)) 2 (E_b558_27.take 2) h_b558_27),
  (55, e2_cutL (al_b558_28.set 3 (13, 11, 2147483657)) 3 (E_b558_28.take 3) h_b558_28)]
set_option maxRecDepth 1000000 in
theorem ck_b558_28 : e2_runM (e2_orG 231 83 11 2 2147483648 2147483668 as_b555 Eb_b555 f_b555 rs_b555 (e2_cal S_b558 I_b558 4000 1)) (e2_fin rs_b558) e2x_230 (e2_bpL cl_b558_28) (e2_cutA cl_b558_28) 4000 (e2_seek e2x_230 55) al_b558_28 [] E_b558_28 h_b558_28 = true := by decide +kernel
set_option maxRecDepth 1000000 in
theorem ci_b558_28 : e2_idl 3 (al_b558_28.set 3 (9, 0, 0)) = true := by decide +kernel
set_option maxRecDepth 1000000 in
theorem cj_b558_28 : e2_idh 3 8 h_b558_28 = true := by decide +kernel
set_option maxRecDepth 1000000 in
theorem ck_b558_u120 : e2_cutsB (e2_orG 231 83 11 2 2147483648 2147483668 as_b555 Eb_b555 f_b555 rs_b555 (e2_cal S_b558 I_b558 4000 1)) (e2_fin rs_b558) e2x_230 120 4000 cu_b558_120 = true := by decide +kernel
theorem cs_b558 (hen : en_ok) (l : Launch) : e2_smOk l 5 s_b558 := by
  refine e2_conC (H := 4) (C := evd_230) ei_230 (fun d hd => (e2_orG_ok (e2_cal_ok hen (e2_fa (cs_b554 hen l) e2_fz) (e2_fa ein_216 (e2_fa ein_217 (e2_fa ein_227 e2_fz))) 1 d (by omega)) rfl (by decide) (fun M hM => (cs_b555 hen l).2 M hM d (by omega)) (e2_okGB_ok cog_b555))) (by decide) co_b558 fun M d _ hC hcall p e R s m args below meth c Q D cA A ads r0 ha hl0 => ?_
  have EN_120 := e2_cutS_ok (bp := 120) (cuts := cu_b558_120) (e2_cuts_len hl0 (by decide +kernel)) (e2_cuts_ok hen ha hcall (hC [192, 195]) (X := e2x_230) ex2_230 (e2_cuts_len hl0 (by decide +kernel)) ck_b558_u120)
  have L_27 : e2_gdM M p l e R s m args below meth c Q D cA A ads r0 49 al_b558_27 [] E_b558_27 h_b558_27 := by
    refine e2_indD (u := 2) (j := 2) (lo := 2147483647) (hi := 2147483667) hl0 (by decide) rfl rfl rfl ci_b558_27 cj_b558_27 ?_
    intro r_27 k_27 hk_27 hp_27 hs_27 hn_27
    have hl_27 : r_27.length ≤ 3 := hs_27.len rfl
    have ha_27 := ha.ext hp_27
    have L_28 : e2_gdM M p l e R s m args below meth c Q D cA A ads r_27 55 al_b558_28 [] E_b558_28 h_b558_28 := by
      refine e2_indL (u := 3) (j := 3) (lo := 2147483648) (hi := 2147483657) (b := 3) (dd := 0) hl_27 (by decide) rfl rfl (Or.inr ⟨rfl, rfl⟩) rfl ci_b558_28 cj_b558_28 ?_
      intro r_28 k_28 hk_28 hp_28 hs_28 hn_28
      have hl_28 : r_28.length ≤ 4 := hs_28.len rfl
      have ha_28 := ha_27.ext hp_28
      exact e2_fromM hen ha_28 hcall (e2_cutA_ok (e2_fa (fun al st E h hc => (hn_27 al st E h hc).ext hp_28) (e2_fa (fun al st E h hc => hn_28 al st E h hc) e2_fz))) (hC [192, 195]) (X := e2x_230) ex2_230 55 ck_b558_28
    have EN_28 := e2_entL (u := 3) (j := 3) (lo := 2147483648) (hi := 2147483657) hl_27 rfl rfl rfl ci_b558_28 cj_b558_28 L_28
    exact e2_fromM hen ha_27 hcall (e2_cutA_ok (e2_fa (fun al st E h hc => (EN_120 al st E h hc).ext hp_27) (e2_fa (fun al st E h hc => EN_28 al st E h hc) e2_fz))) (hC [192, 195]) (X := e2x_230) ex2_230 49 ck_b558_27
  have EN_27 := e2_entL (u := 2) (j := 2) (lo := 2147483647) (hi := 2147483667) hl0 rfl rfl rfl ci_b558_27 cj_b558_27 L_27
  have L_26 : e2_gdM M p l e R s m args below meth c Q D cA A ads r0 2 al_b558_26 [] E_b558_26 h_b558_26 := by
    refine e2_indL (u := 2) (j := 2) (lo := 2147483648) (hi := 2147483657) (b := 2) (dd := 0) hl0 (by decide) rfl rfl (Or.inr ⟨rfl, rfl⟩) rfl ci_b558_26 cj_b558_26 ?_
    intro r_26 k_26 hk_26 hp_26 hs_26 hn_26
    have hl_26 : r_26.length ≤ 3 := hs_26.len rfl
    have ha_26 := ha.ext hp_26
    exact e2_fromM hen ha_26 hcall (e2_cutA_ok (e2_fa (fun al st E h hc => hn_26 al st E h hc) (e2_fa (fun al st E h hc => (EN_27 al st E h hc).ext hp_26) e2_fz))) (hC [192, 195]) (X := e2x_230) ex2_230 2 ck_b558_26
  have EN_26 := e2_entL (u := 2) (j := 2) (lo := 2147483648) (hi := 2147483657) hl0 rfl rfl rfl ci_b558_26 cj_b558_26 L_26
  exact e2_from hen ha hcall (e2_cutA_ok (e2_fa (fun al st E h hc => EN_26 al st E h hc) e2_fz)) (hC [192, 195]) (X := e2x_230) ex2_230 0 ck_b558_e
/-! b559 X10_read -/
def as_b559 : List ev_V := [(2, 83, 0), (11, 0, 4294967295)]
def E_b559 : e2_E := [(2147483648, 2147583648, 0, 0), (2147483651, 2147483651, 1, 0)]
def bc286 : ev_C := (50, [(11, 2147483649, 2147483654), (11, 2147483649, 2147483654), (11, 2147483649, 2147483654), (11, 2147483648, 2147483654), (11, 2147483648, 2147483654), (11, 2147483648, 2147483654), (11, 2147483648, 2147483654), (11, 2147483648, 2147483654), (11, 2147483648, 2147483654), (11, 2147483648, 2147483654), (11, 2147483648, 2147483654), (11, 2147483648, 2147483654), (11, 2147483648, 2147483654), (11, 2147483648, 2147483654), (11, 2147483648, 2147483654), (11, 2147483648, 2147483654)])
def bn3853 : e2_Q1 := (bc286, bc3)
def bn3854 : e2_Q2 := (bn130, bn3853)
def bn3855 : e2_Q3 := (bn129, bn3854)
def bn3856 : e2_Q4 := (bn3855, bn3573)
def bn3857 : e2_Q5 := (bn3856, bn156)
def bn3858 : e2_Q6 := (bn3857, bn3621)
def bn3859 : e2_Q7 := (bn3858, bn3594)
def bn3860 : e2_Q8 := (bn3611, bn3859)
noncomputable def f_b559 : ev_H := (bn3860 : e2_Q8)
noncomputable def q_b559_0 : ev_H := (bn3860 : e2_Q8)
noncomputable def rs_b559 : e2_Rs := [((11, 2147483647, 2147483668), q_b559_0)]
noncomputable def s_b559 : e2_Sm := (230, as_b559, E_b559, f_b559, rs_b559)
noncomputable def S_b559 : List e2_Sm := [s_b554]
noncomputable def I_b559 : List e2_In := [(216, 1, e2x_216), (217, 1, e2x_217), (227, 2, e2x_227)]
set_option maxRecDepth 1000000 in
theorem co_b559 : e2_okSB E_b559.length as_b559 f_b559 rs_b559 = true := by decide +kernel
def al_b559_26 : List ev_V := [(2, 83, 0), (11, 0, 4294967295), (1, 2, 4294967296), (9, 0, 0), (9, 0, 0)]
def E_b559_26 : e2_E := [(2147483648, 2147583648, 0, 0), (2147483651, 2147483651, 1, 0), (2147483648, 2147483657, 2, 0)]
noncomputable def h_b559_26 : ev_H := (bn3860 : e2_Q8)
def al_b559_27 : List ev_V := [(2, 83, 0), (11, 0, 4294967295), (1, 2, 4294967296), (9, 0, 0), (9, 0, 0)]
def E_b559_27 : e2_E := [(2147483648, 2147583648, 0, 0), (2147483651, 2147483651, 1, 0), (2147483647, 2147483667, 2, 0)]
noncomputable def h_b559_27 : ev_H := (bn3860 : e2_Q8)
def al_b559_28 : List ev_V := [(2, 83, 0), (11, 0, 4294967295), (1, 2, 4294967296), (1, 3, 4294967296), (9, 0, 0)]
def E_b559_28 : e2_E := [(2147483648, 2147583648, 0, 0), (2147483651, 2147483651, 1, 0), (2147483648, 2147483667, 2, 0), (2147483648, 2147483657, 3, 0)]
noncomputable def h_b559_28 : ev_H := (bn3860 : e2_Q8)
def bn3861 : e2_Q7 := (bn3858, bn3630)
def bn3862 : e2_Q8 := (bn3611, bn3861)
noncomputable def h_b559_0 : ev_H := (bn3862 : e2_Q8)
def bn3863 : e2_Q7 := (bn3858, bn3648)
def bn3864 : e2_Q8 := (bn3611, bn3863)
noncomputable def h_b559_1 : ev_H := (bn3864 : e2_Q8)
def bn3865 : e2_Q7 := (bn3858, bn3656)
def bn3866 : e2_Q8 := (bn3611, bn3865)
noncomputable def h_b559_2 : ev_H := (bn3866 : e2_Q8)
def bn3867 : e2_Q7 := (bn3858, bn3664)
def bn3868 : e2_Q8 := (bn3611, bn3867)
noncomputable def h_b559_3 : ev_H := (bn3868 : e2_Q8)
def bn3869 : e2_Q7 := (bn3858, bn3672)
def bn3870 : e2_Q8 := (bn3611, bn3869)
noncomputable def h_b559_4 : ev_H := (bn3870 : e2_Q8)
def bn3871 : e2_Q7 := (bn3858, bn3680)
def bn3872 : e2_Q8 := (bn3611, bn3871)
noncomputable def h_b559_5 : ev_H := (bn3872 : e2_Q8)
def bn3873 : e2_Q7 := (bn3858, bn3688)
def bn3874 : e2_Q8 := (bn3611, bn3873)
noncomputable def h_b559_6 : ev_H := (bn3874 : e2_Q8)
def bn3875 : e2_Q7 := (bn3858, bn3696)
def bn3876 : e2_Q8 := (bn3611, bn3875)
noncomputable def h_b559_7 : ev_H := (bn3876 : e2_Q8)
def bn3877 : e2_Q7 := (bn3858, bn3704)
def bn3878 : e2_Q8 := (bn3611, bn3877)
noncomputable def h_b559_8 : ev_H := (bn3878 : e2_Q8)
def bn3879 : e2_Q7 := (bn3858, bn3712)
def bn3880 : e2_Q8 := (bn3611, bn3879)
noncomputable def h_b559_9 : ev_H := (bn3880 : e2_Q8)
def bn3881 : e2_Q7 := (bn3858, bn3720)
def bn3882 : e2_Q8 := (bn3611, bn3881)
noncomputable def h_b559_10 : ev_H := (bn3882 : e2_Q8)
def bn3883 : e2_Q7 := (bn3858, bn3728)
def bn3884 : e2_Q8 := (bn3611, bn3883)
noncomputable def h_b559_11 : ev_H := (bn3884 : e2_Q8)
def bn3885 : e2_Q7 := (bn3858, bn3736)
def bn3886 : e2_Q8 := (bn3611, bn3885)
noncomputable def h_b559_12 : ev_H := (bn3886 : e2_Q8)
def bn3887 : e2_Q7 := (bn3858, bn3744)
def bn3888 : e2_Q8 := (bn3611, bn3887)
noncomputable def h_b559_13 : ev_H := (bn3888 : e2_Q8)
def bn3889 : e2_Q7 := (bn3858, bn3752)
def bn3890 : e2_Q8 := (bn3611, bn3889)
noncomputable def h_b559_14 : ev_H := (bn3890 : e2_Q8)
def bn3891 : e2_Q7 := (bn3858, bn3760)
def bn3892 : e2_Q8 := (bn3611, bn3891)
noncomputable def h_b559_15 : ev_H := (bn3892 : e2_Q8)
def bn3893 : e2_Q7 := (bn3858, bn3768)
def bn3894 : e2_Q8 := (bn3611, bn3893)
noncomputable def h_b559_16 : ev_H := (bn3894 : e2_Q8)
def bn3895 : e2_Q7 := (bn3858, bn3776)
def bn3896 : e2_Q8 := (bn3611, bn3895)
noncomputable def h_b559_17 : ev_H := (bn3896 : e2_Q8)
def bn3897 : e2_Q7 := (bn3858, bn3784)
def bn3898 : e2_Q8 := (bn3611, bn3897)
noncomputable def h_b559_18 : ev_H := (bn3898 : e2_Q8)
def bn3899 : e2_Q7 := (bn3858, bn3792)
def bn3900 : e2_Q8 := (bn3611, bn3899)
noncomputable def h_b559_19 : ev_H := (bn3900 : e2_Q8)
noncomputable def h_b559_20 : ev_H := (bn3860 : e2_Q8)
def bn3901 : e2_Q7 := (bn3858, bn3800)
def bn3902 : e2_Q8 := (bn3611, bn3901)
noncomputable def h_b559_21 : ev_H := (bn3902 : e2_Q8)
noncomputable def h_b559_22 : ev_H := (bn3902 : e2_Q8)
noncomputable def h_b559_23 : ev_H := (bn3902 : e2_Q8)
noncomputable def h_b559_24 : ev_H := (bn3902 : e2_Q8)
noncomputable def h_b559_25 : ev_H := (bn3902 : e2_Q8)
noncomputable def cu_b559_120 : List e2_Cu := [([(2, 83, 0), (11, 0, 4294967295), (0, 0, 0), (0, 8, 0), (9, 0, 0)], [(2147483648, 2147583648, 0, 0), (2147483651, 2147483651, 1, 0)], h_b559_0),
  ([(2, 83, 0), (11, 0, 4294967295), (0, 1, 0), (11, 2147483648, 2147483656), (11, 2147483647, 2147483650)], [(2147483648, 2147583648, 0, 0), (2147483651, 2147483651, 1, 0)], h_b559_1),
  ([(2, 83, 0), (11, 0, 4294967295), (0, 2, 0), (11, 2147483648, 2147483656), (11, 2147483647, 2147483650)], [(2147483648, 2147583648, 0, 0), (2147483651, 2147483651, 1, 0)], h_b559_2),
  ([(2, 83, 0), (11, 0, 4294967295), (0, 3, 0), (11, 2147483648, 2147483656), (11, 2147483647, 2147483650)], [(2147483648, 2147583648, 0, 0), (2147483651, 2147483651, 1, 0)], h_b559_3),
  ([(2, 83, 0), (11, 0, 4294967295), (0, 4, 0), (11, 2147483648, 2147483656), (11, 2147483647, 2147483650)], [(2147483648, 2147583648, 0, 0), (2147483651, 2147483651, 1, 0)], h_b559_4),
  ([(2, 83, 0), (11, 0, 4294967295), (0, 5, 0), (11, 2147483648, 2147483656), (11, 2147483647, 2147483650)], [(2147483648, 2147583648, 0, 0), (2147483651, 2147483651, 1, 0)], h_b559_5),
  ([(2, 83, 0), (11, 0, 4294967295), (0, 6, 0), (11, 2147483648, 2147483656), (11, 2147483647, 2147483650)], [(2147483648, 2147583648, 0, 0), (2147483651, 2147483651, 1, 0)], h_b559_6),
  ([(2, 83, 0), (11, 0, 4294967295), (0, 7, 0), (11, 2147483648, 2147483656), (11, 2147483647, 2147483650)], [(2147483648, 2147583648, 0, 0), (2147483651, 2147483651, 1, 0)], h_b559_7),
  ([(2, 83, 0), (11, 0, 4294967295), (0, 8, 0), (11, 2147483648, 2147483656), (11, 2147483647, 2147483650)], [(2147483648, 2147583648, 0, 0), (2147483651, 2147483651, 1, 0)], h_b559_8),
  ([(2, 83, 0), (11, 0, 4294967295), (0, 9, 0), (11, 2147483648, 2147483656), (11, 2147483647, 2147483650)], [(2147483648, 2147583648, 0, 0), (2147483651, 2147483651, 1, 0)], h_b559_9),
  ([(2, 83, 0), (11, 0, 4294967295), (0, 10, 0), (11, 2147483648, 2147483656), (11, 2147483647, 2147483650)], [(2147483648, 2147583648, 0, 0), (2147483651, 2147483651, 1, 0)], h_b559_10),
  ([(2, 83, 0), (11, 0, 4294967295), (0, 11, 0), (11, 2147483648, 2147483656), (11, 2147483647, 2147483650)], [(2147483648, 2147583648, 0, 0), (2147483651, 2147483651, 1, 0)], h_b559_11),
  ([(2, 83, 0), (11, 0, 4294967295), (0, 12, 0), (11, 2147483648, 2147483656), (11, 2147483647, 2147483650)], [(2147483648, 2147583648, 0, 0), (2147483651, 2147483651, 1, 0)], h_b559_12),
  ([(2, 83, 0), (11, 0, 4294967295), (0, 13, 0), (11, 2147483648, 2147483656), (11, 2147483647, 2147483650)], [(2147483648, 2147583648, 0, 0), (2147483651, 2147483651, 1, 0)], h_b559_13),
  ([(2, 83, 0), (11, 0, 4294967295), (0, 14, 0), (11, 2147483648, 2147483656), (11, 2147483647, 2147483650)], [(2147483648, 2147583648, 0, 0), (2147483651, 2147483651, 1, 0)], h_b559_14),
  ([(2, 83, 0), (11, 0, 4294967295), (0, 15, 0), (11, 2147483648, 2147483656), (11, 2147483647, 2147483650)], [(2147483648, 2147583648, 0, 0), (2147483651, 2147483651, 1, 0)], h_b559_15),
  ([(2, 83, 0), (11, 0, 4294967295), (0, 16, 0), (11, 2147483648, 2147483656), (11, 2147483647, 2147483650)], [(2147483648, 2147583648, 0, 0), (2147483651, 2147483651, 1, 0)], h_b559_16),
  ([(2, 83, 0), (11, 0, 4294967295), (0, 17, 0), (11, 2147483648, 2147483656), (11, 2147483647, 2147483650)], [(2147483648, 2147583648, 0, 0), (2147483651, 2147483651, 1, 0)], h_b559_17),
  ([(2, 83, 0), (11, 0, 4294967295), (0, 18, 0), (11, 2147483648, 2147483656), (11, 2147483647, 2147483650)], [(2147483648, 2147583648, 0, 0), (2147483651, 2147483651, 1, 0)], h_b559_18),
  ([(2, 83, 0), (11, 0, 4294967295), (0, 19, 0), (11, 2147483648, 2147483656), (11, 2147483647, 2147483650)], [(2147483648, 2147583648, 0, 0), (2147483651, 2147483651, 1, 0)], h_b559_19),
  ([(2, 83, 0), (11, 0, 4294967295), (0, 20, 0), (11, 2147483648, 2147483656), (11, 2147483647, 2147483650)], [(2147483648, 2147583648, 0, 0), (2147483651, 2147483651, 1, 0)], h_b559_20),
  ([(2, 83, 0), (11, 0, 4294967295), (0, 21, 0), (11, 2147483648, 2147483650), (11, 2147483648, 2147483650)], [(2147483648, 2147583648, 0, 0), (2147483651, 2147483651, 1, 0)], h_b559_21),
  ([(2, 83, 0), (11, 0, 4294967295), (0, 22, 0), (11, 2147483648, 2147483650), (11, 2147483648, 2147483650)], [(2147483648, 2147583648, 0, 0), (2147483651, 2147483651, 1, 0)], h_b559_22),
  ([(2, 83, 0), (11, 0, 4294967295), (0, 23, 0), (11, 2147483648, 2147483650), (11, 2147483648, 2147483650)], [(2147483648, 2147583648, 0, 0), (2147483651, 2147483651, 1, 0)], h_b559_23),
  ([(2, 83, 0), (11, 0, 4294967295), (0, 24, 0), (11, 2147483648, 2147483650), (11, 2147483648, 2147483650)], [(2147483648, 2147583648, 0, 0), (2147483651, 2147483651, 1, 0)], h_b559_24),
  ([(2, 83, 0), (11, 0, 4294967295), (0, 25, 0), (11, 2147483648, 2147483650), (11, 2147483648, 2147483650)], [(2147483648, 2147583648, 0, 0), (2147483651, 2147483651, 1, 0)], h_b559_25)]
noncomputable def cl_b559_e : List (Nat × e2_S) := [(2, e2_cutL (al_b559_26.set 2 (11, 2147483648, 2147483657)) 2 (E_b559_26.take 2) h_b559_26)]
set_option maxRecDepth 1000000 in
theorem ck_b559_e : e2_run (e2_orG 231 83 11 2 2147483648 2147483668 as_b555 Eb_b555 f_b555 rs_b555 (e2_cal S_b559 I_b559 4000 1)) (e2_fin rs_b559) e2x_230 (e2_bpL cl_b559_e) (e2_cutA cl_b559_e) 4000 (e2_seek e2x_230 0) (e2_al 5 as_b559) [] E_b559 f_b559 = true := by decide +kernel
noncomputable def cl_b559_26 : List (Nat × e2_S) := [(2, e2_cutL (al_b559_26.set 2 (13, 10, 2147483657)) 2 (E_b559_26.take 2) h_b559_26),
  (49, e2_cutL (al_b559_27.set 2 (11, 2147483647, 2147483667)) 2 (E_b559_27.take 2) h_b559_27)]
set_option maxRecDepth 1000000 in
theorem ck_b559_26 : e2_runM (e2_orG 231 83 11 2 2147483648 2147483668 as_b555 Eb_b555 f_b555 rs_b555 (e2_cal S_b559 I_b559 4000 1)) (e2_fin rs_b559) e2x_230 (e2_bpL cl_b559_26) (e2_cutA cl_b559_26) 4000 (e2_seek e2x_230 2) al_b559_26 [] E_b559_26 h_b559_26 = true := by decide +kernel
set_option maxRecDepth 1000000 in
theorem ci_b559_26 : e2_idl 2 (al_b559_26.set 2 (9, 0, 0)) = true := by decide +kernel
set_option maxRecDepth 1000000 in
theorem cj_b559_26 : e2_idh 2 8 h_b559_26 = true := by decide +kernel
noncomputable def cl_b559_27 : List (Nat × e2_S) := [(120, e2_cutS cu_b559_120),
  (55, e2_cutL (al_b559_28.set 3 (11, 2147483648, 2147483657)) 3 (E_b559_28.take 3) h_b559_28)]
set_option maxRecDepth 1000000 in
theorem ck_b559_27 : e2_runM (e2_orG 231 83 11 2 2147483648 2147483668 as_b555 Eb_b555 f_b555 rs_b555 (e2_cal S_b559 I_b559 4000 1)) (e2_fin rs_b559) e2x_230 (e2_bpL cl_b559_27) (e2_cutA cl_b559_27) 4000 (e2_seek e2x_230 49) al_b559_27 [] E_b559_27 h_b559_27 = true := by decide +kernel
set_option maxRecDepth 1000000 in
theorem ci_b559_27 : e2_idl 2 (al_b559_27.set 2 (9, 0, 0)) = true := by decide +kernel
set_option maxRecDepth 1000000 in
theorem cj_b559_27 : e2_idh 2 8 h_b559_27 = true := by decide +kernel
noncomputable def cl_b559_28 : List (Nat × e2_S) := [(49, e2_cutL (al_b559_27.set 2 (12, 10, 2147483647)) 2 (E_b559_27.take 2) h_b559_27),
  (55, e2_cutL (al_b559_28.set 3 (13, 11, 2147483657)) 3 (E_b559_28.take 3) h_b559_28)]
set_option maxRecDepth 1000000 in
theorem ck_b559_28 : e2_runM (e2_orG 231 83 11 2 2147483648 2147483668 as_b555 Eb_b555 f_b555 rs_b555 (e2_cal S_b559 I_b559 4000 1)) (e2_fin rs_b559) e2x_230 (e2_bpL cl_b559_28) (e2_cutA cl_b559_28) 4000 (e2_seek e2x_230 55) al_b559_28 [] E_b559_28 h_b559_28 = true := by decide +kernel
set_option maxRecDepth 1000000 in
theorem ci_b559_28 : e2_idl 3 (al_b559_28.set 3 (9, 0, 0)) = true := by decide +kernel
set_option maxRecDepth 1000000 in
theorem cj_b559_28 : e2_idh 3 8 h_b559_28 = true := by decide +kernel
set_option maxRecDepth 1000000 in
theorem ck_b559_u120 : e2_cutsB (e2_orG 231 83 11 2 2147483648 2147483668 as_b555 Eb_b555 f_b555 rs_b555 (e2_cal S_b559 I_b559 4000 1)) (e2_fin rs_b559) e2x_230 120 4000 cu_b559_120 = true := by decide +kernel
theorem cs_b559 (hen : en_ok) (l : Launch) : e2_smOk l 5 s_b559 := by
  refine e2_conC (H := 4) (C := evd_230) ei_230 (fun d hd => (e2_orG_ok (e2_cal_ok hen (e2_fa (cs_b554 hen l) e2_fz) (e2_fa ein_216 (e2_fa ein_217 (e2_fa ein_227 e2_fz))) 1 d (by omega)) rfl (by decide) (fun M hM => (cs_b555 hen l).2 M hM d (by omega)) (e2_okGB_ok cog_b555))) (by decide) co_b559 fun M d _ hC hcall p e R s m args below meth c Q D cA A ads r0 ha hl0 => ?_
  have EN_120 := e2_cutS_ok (bp := 120) (cuts := cu_b559_120) (e2_cuts_len hl0 (by decide +kernel)) (e2_cuts_ok hen ha hcall (hC [192, 195]) (X := e2x_230) ex2_230 (e2_cuts_len hl0 (by decide +kernel)) ck_b559_u120)
  have L_27 : e2_gdM M p l e R s m args below meth c Q D cA A ads r0 49 al_b559_27 [] E_b559_27 h_b559_27 := by
    refine e2_indD (u := 2) (j := 2) (lo := 2147483647) (hi := 2147483667) hl0 (by decide) rfl rfl rfl ci_b559_27 cj_b559_27 ?_
    intro r_27 k_27 hk_27 hp_27 hs_27 hn_27
    have hl_27 : r_27.length ≤ 3 := hs_27.len rfl
    have ha_27 := ha.ext hp_27
    have L_28 : e2_gdM M p l e R s m args below meth c Q D cA A ads r_27 55 al_b559_28 [] E_b559_28 h_b559_28 := by
      refine e2_indL (u := 3) (j := 3) (lo := 2147483648) (hi := 2147483657) (b := 3) (dd := 0) hl_27 (by decide) rfl rfl (Or.inr ⟨rfl, rfl⟩) rfl ci_b559_28 cj_b559_28 ?_
      intro r_28 k_28 hk_28 hp_28 hs_28 hn_28
      have hl_28 : r_28.length ≤ 4 := hs_28.len rfl
      have ha_28 := ha_27.ext hp_28
      exact e2_fromM hen ha_28 hcall (e2_cutA_ok (e2_fa (fun al st E h hc => (hn_27 al st E h hc).ext hp_28) (e2_fa (fun al st E h hc => hn_28 al st E h hc) e2_fz))) (hC [192, 195]) (X := e2x_230) ex2_230 55 ck_b559_28
    have EN_28 := e2_entL (u := 3) (j := 3) (lo := 2147483648) (hi := 2147483657) hl_27 rfl rfl rfl ci_b559_28 cj_b559_28 L_28
    exact e2_fromM hen ha_27 hcall (e2_cutA_ok (e2_fa (fun al st E h hc => (EN_120 al st E h hc).ext hp_27) (e2_fa (fun al st E h hc => EN_28 al st E h hc) e2_fz))) (hC [192, 195]) (X := e2x_230) ex2_230 49 ck_b559_27
  have EN_27 := e2_entL (u := 2) (j := 2) (lo := 2147483647) (hi := 2147483667) hl0 rfl rfl rfl ci_b559_27 cj_b559_27 L_27
  have L_26 : e2_gdM M p l e R s m args below meth c Q D cA A ads r0 2 al_b559_26 [] E_b559_26 h_b559_26 := by
    refine e2_indL (u := 2) (j := 2) (lo := 2147483648) (hi := 2147483657) (b := 2) (dd := 0) hl0 (by decide) rfl rfl (Or.inr ⟨rfl, rfl⟩) rfl ci_b559_26 cj_b559_26 ?_
    intro r_26 k_26 hk_26 hp_26 hs_26 hn_26
    have hl_26 : r_26.length ≤ 3 := hs_26.len rfl
    have ha_26 := ha.ext hp_26
    exact e2_fromM hen ha_26 hcall (e2_cutA_ok (e2_fa (fun al st E h hc => hn_26 al st E h hc) (e2_fa (fun al st E h hc => (EN_27 al st E h hc).ext hp_26) e2_fz))) (hC [192, 195]) (X := e2x_230) ex2_230 2 ck_b559_26
  have EN_26 := e2_entL (u := 2) (j := 2) (lo := 2147483648) (hi := 2147483657) hl0 rfl rfl rfl ci_b559_26 cj_b559_26 L_26
  exact e2_from hen ha hcall (e2_cutA_ok (e2_fa (fun al st E h hc => EN_26 al st E h hc) e2_fz)) (hC [192, 195]) (X := e2x_230) ex2_230 0 ck_b559_e
/-! b560 X10_read -/
def as_b560 : List ev_V := [(2, 83, 0), (11, 0, 4294967295)]
def E_b560 : e2_E := [(2147483648, 2147583648, 0, 0), (2147483652, 2147483652, 1, 0)]
def bc287 : ev_C := (50, [(11, 2147483649, 2147483654), (11, 2147483649, 2147483654), (11, 2147483649, 2147483654), (11, 2147483649, 2147483654), (11, 2147483648, 2147483654), (11, 2147483648, 2147483654), (11, 2147483648, 2147483654), (11, 2147483648, 2147483654), (11, 2147483648, 2147483654), (11, 2147483648, 2147483654), (11, 2147483648, 2147483654), (11, 2147483648, 2147483654), (11, 2147483648, 2147483654), (11, 2147483648, 2147483654), (11, 2147483648, 2147483654), (11, 2147483648, 2147483654)])
def bn3903 : e2_Q1 := (bc287, bc3)
def bn3904 : e2_Q2 := (bn130, bn3903)
def bn3905 : e2_Q3 := (bn129, bn3904)
def bn3906 : e2_Q4 := (bn3905, bn3573)
def bn3907 : e2_Q5 := (bn3906, bn156)
def bn3908 : e2_Q6 := (bn3907, bn3621)
def bn3909 : e2_Q7 := (bn3908, bn3594)
def bn3910 : e2_Q8 := (bn3611, bn3909)
noncomputable def f_b560 : ev_H := (bn3910 : e2_Q8)
noncomputable def q_b560_0 : ev_H := (bn3910 : e2_Q8)
noncomputable def rs_b560 : e2_Rs := [((11, 2147483647, 2147483668), q_b560_0)]
noncomputable def s_b560 : e2_Sm := (230, as_b560, E_b560, f_b560, rs_b560)
noncomputable def S_b560 : List e2_Sm := [s_b554]
noncomputable def I_b560 : List e2_In := [(216, 1, e2x_216), (217, 1, e2x_217), (227, 2, e2x_227)]
set_option maxRecDepth 1000000 in
theorem co_b560 : e2_okSB E_b560.length as_b560 f_b560 rs_b560 = true := by decide +kernel
def al_b560_26 : List ev_V := [(2, 83, 0), (11, 0, 4294967295), (1, 2, 4294967296), (9, 0, 0), (9, 0, 0)]
def E_b560_26 : e2_E := [(2147483648, 2147583648, 0, 0), (2147483652, 2147483652, 1, 0), (2147483648, 2147483657, 2, 0)]
noncomputable def h_b560_26 : ev_H := (bn3910 : e2_Q8)
def al_b560_27 : List ev_V := [(2, 83, 0), (11, 0, 4294967295), (1, 2, 4294967296), (9, 0, 0), (9, 0, 0)]
def E_b560_27 : e2_E := [(2147483648, 2147583648, 0, 0), (2147483652, 2147483652, 1, 0), (2147483647, 2147483667, 2, 0)]
noncomputable def h_b560_27 : ev_H := (bn3910 : e2_Q8)
def al_b560_28 : List ev_V := [(2, 83, 0), (11, 0, 4294967295), (1, 2, 4294967296), (1, 3, 4294967296), (9, 0, 0)]
def E_b560_28 : e2_E := [(2147483648, 2147583648, 0, 0), (2147483652, 2147483652, 1, 0), (2147483648, 2147483667, 2, 0), (2147483648, 2147483657, 3, 0)]
noncomputable def h_b560_28 : ev_H := (bn3910 : e2_Q8)
def bn3911 : e2_Q7 := (bn3908, bn3630)
def bn3912 : e2_Q8 := (bn3611, bn3911)
noncomputable def h_b560_0 : ev_H := (bn3912 : e2_Q8)
def bn3913 : e2_Q7 := (bn3908, bn3648)
def bn3914 : e2_Q8 := (bn3611, bn3913)
noncomputable def h_b560_1 : ev_H := (bn3914 : e2_Q8)
def bn3915 : e2_Q7 := (bn3908, bn3656)
def bn3916 : e2_Q8 := (bn3611, bn3915)
noncomputable def h_b560_2 : ev_H := (bn3916 : e2_Q8)
def bn3917 : e2_Q7 := (bn3908, bn3664)
def bn3918 : e2_Q8 := (bn3611, bn3917)
noncomputable def h_b560_3 : ev_H := (bn3918 : e2_Q8)
def bn3919 : e2_Q7 := (bn3908, bn3672)
def bn3920 : e2_Q8 := (bn3611, bn3919)
noncomputable def h_b560_4 : ev_H := (bn3920 : e2_Q8)
def bn3921 : e2_Q7 := (bn3908, bn3680)
def bn3922 : e2_Q8 := (bn3611, bn3921)
noncomputable def h_b560_5 : ev_H := (bn3922 : e2_Q8)
def bn3923 : e2_Q7 := (bn3908, bn3688)
def bn3924 : e2_Q8 := (bn3611, bn3923)
noncomputable def h_b560_6 : ev_H := (bn3924 : e2_Q8)
def bn3925 : e2_Q7 := (bn3908, bn3696)
def bn3926 : e2_Q8 := (bn3611, bn3925)
noncomputable def h_b560_7 : ev_H := (bn3926 : e2_Q8)
def bn3927 : e2_Q7 := (bn3908, bn3704)
def bn3928 : e2_Q8 := (bn3611, bn3927)
noncomputable def h_b560_8 : ev_H := (bn3928 : e2_Q8)
def bn3929 : e2_Q7 := (bn3908, bn3712)
def bn3930 : e2_Q8 := (bn3611, bn3929)
noncomputable def h_b560_9 : ev_H := (bn3930 : e2_Q8)
def bn3931 : e2_Q7 := (bn3908, bn3720)
def bn3932 : e2_Q8 := (bn3611, bn3931)
noncomputable def h_b560_10 : ev_H := (bn3932 : e2_Q8)
def bn3933 : e2_Q7 := (bn3908, bn3728)
def bn3934 : e2_Q8 := (bn3611, bn3933)
noncomputable def h_b560_11 : ev_H := (bn3934 : e2_Q8)
def bn3935 : e2_Q7 := (bn3908, bn3736)
def bn3936 : e2_Q8 := (bn3611, bn3935)
noncomputable def h_b560_12 : ev_H := (bn3936 : e2_Q8)
def bn3937 : e2_Q7 := (bn3908, bn3744)
def bn3938 : e2_Q8 := (bn3611, bn3937)
noncomputable def h_b560_13 : ev_H := (bn3938 : e2_Q8)
def bn3939 : e2_Q7 := (bn3908, bn3752)
def bn3940 : e2_Q8 := (bn3611, bn3939)
noncomputable def h_b560_14 : ev_H := (bn3940 : e2_Q8)
def bn3941 : e2_Q7 := (bn3908, bn3760)
def bn3942 : e2_Q8 := (bn3611, bn3941)
noncomputable def h_b560_15 : ev_H := (bn3942 : e2_Q8)
def bn3943 : e2_Q7 := (bn3908, bn3768)
def bn3944 : e2_Q8 := (bn3611, bn3943)
noncomputable def h_b560_16 : ev_H := (bn3944 : e2_Q8)
def bn3945 : e2_Q7 := (bn3908, bn3776)
def bn3946 : e2_Q8 := (bn3611, bn3945)
noncomputable def h_b560_17 : ev_H := (bn3946 : e2_Q8)
def bn3947 : e2_Q7 := (bn3908, bn3784)
def bn3948 : e2_Q8 := (bn3611, bn3947)
noncomputable def h_b560_18 : ev_H := (bn3948 : e2_Q8)
def bn3949 : e2_Q7 := (bn3908, bn3792)
def bn3950 : e2_Q8 := (bn3611, bn3949)
noncomputable def h_b560_19 : ev_H := (bn3950 : e2_Q8)
noncomputable def h_b560_20 : ev_H := (bn3910 : e2_Q8)
def bn3951 : e2_Q7 := (bn3908, bn3800)
def bn3952 : e2_Q8 := (bn3611, bn3951)
noncomputable def h_b560_21 : ev_H := (bn3952 : e2_Q8)
noncomputable def h_b560_22 : ev_H := (bn3952 : e2_Q8)
noncomputable def h_b560_23 : ev_H := (bn3952 : e2_Q8)
noncomputable def h_b560_24 : ev_H := (bn3952 : e2_Q8)
noncomputable def h_b560_25 : ev_H := (bn3952 : e2_Q8)
noncomputable def cu_b560_120 : List e2_Cu := [([(2, 83, 0), (11, 0, 4294967295), (0, 0, 0), (0, 8, 0), (9, 0, 0)], [(2147483648, 2147583648, 0, 0), (2147483652, 2147483652, 1, 0)], h_b560_0),
  ([(2, 83, 0), (11, 0, 4294967295), (0, 1, 0), (11, 2147483648, 2147483656), (11, 2147483647, 2147483651)], [(2147483648, 2147583648, 0, 0), (2147483652, 2147483652, 1, 0)], h_b560_1),
  ([(2, 83, 0), (11, 0, 4294967295), (0, 2, 0), (11, 2147483648, 2147483656), (11, 2147483647, 2147483651)], [(2147483648, 2147583648, 0, 0), (2147483652, 2147483652, 1, 0)], h_b560_2),
  ([(2, 83, 0), (11, 0, 4294967295), (0, 3, 0), (11, 2147483648, 2147483656), (11, 2147483647, 2147483651)], [(2147483648, 2147583648, 0, 0), (2147483652, 2147483652, 1, 0)], h_b560_3),
  ([(2, 83, 0), (11, 0, 4294967295), (0, 4, 0), (11, 2147483648, 2147483656), (11, 2147483647, 2147483651)], [(2147483648, 2147583648, 0, 0), (2147483652, 2147483652, 1, 0)], h_b560_4),
  ([(2, 83, 0), (11, 0, 4294967295), (0, 5, 0), (11, 2147483648, 2147483656), (11, 2147483647, 2147483651)], [(2147483648, 2147583648, 0, 0), (2147483652, 2147483652, 1, 0)], h_b560_5),
  ([(2, 83, 0), (11, 0, 4294967295), (0, 6, 0), (11, 2147483648, 2147483656), (11, 2147483647, 2147483651)], [(2147483648, 2147583648, 0, 0), (2147483652, 2147483652, 1, 0)], h_b560_6),
  ([(2, 83, 0), (11, 0, 4294967295), (0, 7, 0), (11, 2147483648, 2147483656), (11, 2147483647, 2147483651)], [(2147483648, 2147583648, 0, 0), (2147483652, 2147483652, 1, 0)], h_b560_7),
  ([(2, 83, 0), (11, 0, 4294967295), (0, 8, 0), (11, 2147483648, 2147483656), (11, 2147483647, 2147483651)], [(2147483648, 2147583648, 0, 0), (2147483652, 2147483652, 1, 0)], h_b560_8),
  ([(2, 83, 0), (11, 0, 4294967295), (0, 9, 0), (11, 2147483648, 2147483656), (11, 2147483647, 2147483651)], [(2147483648, 2147583648, 0, 0), (2147483652, 2147483652, 1, 0)], h_b560_9),
  ([(2, 83, 0), (11, 0, 4294967295), (0, 10, 0), (11, 2147483648, 2147483656), (11, 2147483647, 2147483651)], [(2147483648, 2147583648, 0, 0), (2147483652, 2147483652, 1, 0)], h_b560_10),
  ([(2, 83, 0), (11, 0, 4294967295), (0, 11, 0), (11, 2147483648, 2147483656), (11, 2147483647, 2147483651)], [(2147483648, 2147583648, 0, 0), (2147483652, 2147483652, 1, 0)], h_b560_11),
  ([(2, 83, 0), (11, 0, 4294967295), (0, 12, 0), (11, 2147483648, 2147483656), (11, 2147483647, 2147483651)], [(2147483648, 2147583648, 0, 0), (2147483652, 2147483652, 1, 0)], h_b560_12),
  ([(2, 83, 0), (11, 0, 4294967295), (0, 13, 0), (11, 2147483648, 2147483656), (11, 2147483647, 2147483651)], [(2147483648, 2147583648, 0, 0), (2147483652, 2147483652, 1, 0)], h_b560_13),
  ([(2, 83, 0), (11, 0, 4294967295), (0, 14, 0), (11, 2147483648, 2147483656), (11, 2147483647, 2147483651)], [(2147483648, 2147583648, 0, 0), (2147483652, 2147483652, 1, 0)], h_b560_14),
  ([(2, 83, 0), (11, 0, 4294967295), (0, 15, 0), (11, 2147483648, 2147483656), (11, 2147483647, 2147483651)], [(2147483648, 2147583648, 0, 0), (2147483652, 2147483652, 1, 0)], h_b560_15),
  ([(2, 83, 0), (11, 0, 4294967295), (0, 16, 0), (11, 2147483648, 2147483656), (11, 2147483647, 2147483651)], [(2147483648, 2147583648, 0, 0), (2147483652, 2147483652, 1, 0)], h_b560_16),
  ([(2, 83, 0), (11, 0, 4294967295), (0, 17, 0), (11, 2147483648, 2147483656), (11, 2147483647, 2147483651)], [(2147483648, 2147583648, 0, 0), (2147483652, 2147483652, 1, 0)], h_b560_17),
  ([(2, 83, 0), (11, 0, 4294967295), (0, 18, 0), (11, 2147483648, 2147483656), (11, 2147483647, 2147483651)], [(2147483648, 2147583648, 0, 0), (2147483652, 2147483652, 1, 0)], h_b560_18),
  ([(2, 83, 0), (11, 0, 4294967295), (0, 19, 0), (11, 2147483648, 2147483656), (11, 2147483647, 2147483651)], [(2147483648, 2147583648, 0, 0), (2147483652, 2147483652, 1, 0)], h_b560_19),
  ([(2, 83, 0), (11, 0, 4294967295), (0, 20, 0), (11, 2147483648, 2147483656), (11, 2147483647, 2147483651)], [(2147483648, 2147583648, 0, 0), (2147483652, 2147483652, 1, 0)], h_b560_20),
  ([(2, 83, 0), (11, 0, 4294967295), (0, 21, 0), (11, 2147483648, 2147483651), (11, 2147483648, 2147483651)], [(2147483648, 2147583648, 0, 0), (2147483652, 2147483652, 1, 0)], h_b560_21),
  ([(2, 83, 0), (11, 0, 4294967295), (0, 22, 0), (11, 2147483648, 2147483651), (11, 2147483648, 2147483651)], [(2147483648, 2147583648, 0, 0), (2147483652, 2147483652, 1, 0)], h_b560_22),
  ([(2, 83, 0), (11, 0, 4294967295), (0, 23, 0), (11, 2147483648, 2147483651), (11, 2147483648, 2147483651)], [(2147483648, 2147583648, 0, 0), (2147483652, 2147483652, 1, 0)], h_b560_23),
  ([(2, 83, 0), (11, 0, 4294967295), (0, 24, 0), (11, 2147483648, 2147483651), (11, 2147483648, 2147483651)], [(2147483648, 2147583648, 0, 0), (2147483652, 2147483652, 1, 0)], h_b560_24),
  ([(2, 83, 0), (11, 0, 4294967295), (0, 25, 0), (11, 2147483648, 2147483651), (11, 2147483648, 2147483651)], [(2147483648, 2147583648, 0, 0), (2147483652, 2147483652, 1, 0)], h_b560_25)]
noncomputable def cl_b560_e : List (Nat × e2_S) := [(2, e2_cutL (al_b560_26.set 2 (11, 2147483648, 2147483657)) 2 (E_b560_26.take 2) h_b560_26)]
set_option maxRecDepth 1000000 in
theorem ck_b560_e : e2_run (e2_orG 231 83 11 2 2147483648 2147483668 as_b555 Eb_b555 f_b555 rs_b555 (e2_cal S_b560 I_b560 4000 1)) (e2_fin rs_b560) e2x_230 (e2_bpL cl_b560_e) (e2_cutA cl_b560_e) 4000 (e2_seek e2x_230 0) (e2_al 5 as_b560) [] E_b560 f_b560 = true := by decide +kernel
noncomputable def cl_b560_26 : List (Nat × e2_S) := [(2, e2_cutL (al_b560_26.set 2 (13, 10, 2147483657)) 2 (E_b560_26.take 2) h_b560_26),
  (49, e2_cutL (al_b560_27.set 2 (11, 2147483647, 2147483667)) 2 (E_b560_27.take 2) h_b560_27)]
set_option maxRecDepth 1000000 in
theorem ck_b560_26 : e2_runM (e2_orG 231 83 11 2 2147483648 2147483668 as_b555 Eb_b555 f_b555 rs_b555 (e2_cal S_b560 I_b560 4000 1)) (e2_fin rs_b560) e2x_230 (e2_bpL cl_b560_26) (e2_cutA cl_b560_26) 4000 (e2_seek e2x_230 2) al_b560_26 [] E_b560_26 h_b560_26 = true := by decide +kernel
set_option maxRecDepth 1000000 in
theorem ci_b560_26 : e2_idl 2 (al_b560_26.set 2 (9, 0, 0)) = true := by decide +kernel
set_option maxRecDepth 1000000 in
theorem cj_b560_26 : e2_idh 2 8 h_b560_26 = true := by decide +kernel
noncomputable def cl_b560_27 : List (Nat × e2_S) := [(120, e2_cutS cu_b560_120),
  (55, e2_cutL (al_b560_28.set 3 (11, 2147483648, 2147483657)) 3 (E_b560_28.take 3) h_b560_28)]
set_option maxRecDepth 1000000 in
theorem ck_b560_27 : e2_runM (e2_orG 231 83 11 2 2147483648 2147483668 as_b555 Eb_b555 f_b555 rs_b555 (e2_cal S_b560 I_b560 4000 1)) (e2_fin rs_b560) e2x_230 (e2_bpL cl_b560_27) (e2_cutA cl_b560_27) 4000 (e2_seek e2x_230 49) al_b560_27 [] E_b560_27 h_b560_27 = true := by decide +kernel
set_option maxRecDepth 1000000 in
theorem ci_b560_27 : e2_idl 2 (al_b560_27.set 2 (9, 0, 0)) = true := by decide +kernel
set_option maxRecDepth 1000000 in
theorem cj_b560_27 : e2_idh 2 8 h_b560_27 = true := by decide +kernel
noncomputable def cl_b560_28 : List (Nat × e2_S) := [(49, e2_cutL (al_b560_27.set 2 (12, 10, 2147483647)) 2 (E_b560_27.take 2) h_b560_27),
  (55, e2_cutL (al_b560_28.set 3 (13, 11, 2147483657)) 3 (E_b560_28.take 3) h_b560_28)]
set_option maxRecDepth 1000000 in
theorem ck_b560_28 : e2_runM (e2_orG 231 83 11 2 2147483648 2147483668 as_b555 Eb_b555 f_b555 rs_b555 (e2_cal S_b560 I_b560 4000 1)) (e2_fin rs_b560) e2x_230 (e2_bpL cl_b560_28) (e2_cutA cl_b560_28) 4000 (e2_seek e2x_230 55) al_b560_28 [] E_b560_28 h_b560_28 = true := by decide +kernel
set_option maxRecDepth 1000000 in
theorem ci_b560_28 : e2_idl 3 (al_b560_28.set 3 (9, 0, 0)) = true := by decide +kernel
set_option maxRecDepth 1000000 in
theorem cj_b560_28 : e2_idh 3 8 h_b560_28 = true := by decide +kernel
set_option maxRecDepth 1000000 in
theorem ck_b560_u120 : e2_cutsB (e2_orG 231 83 11 2 2147483648 2147483668 as_b555 Eb_b555 f_b555 rs_b555 (e2_cal S_b560 I_b560 4000 1)) (e2_fin rs_b560) e2x_230 120 4000 cu_b560_120 = true := by decide +kernel
theorem cs_b560 (hen : en_ok) (l : Launch) : e2_smOk l 5 s_b560 := by
  refine e2_conC (H := 4) (C := evd_230) ei_230 (fun d hd => (e2_orG_ok (e2_cal_ok hen (e2_fa (cs_b554 hen l) e2_fz) (e2_fa ein_216 (e2_fa ein_217 (e2_fa ein_227 e2_fz))) 1 d (by omega)) rfl (by decide) (fun M hM => (cs_b555 hen l).2 M hM d (by omega)) (e2_okGB_ok cog_b555))) (by decide) co_b560 fun M d _ hC hcall p e R s m args below meth c Q D cA A ads r0 ha hl0 => ?_
  have EN_120 := e2_cutS_ok (bp := 120) (cuts := cu_b560_120) (e2_cuts_len hl0 (by decide +kernel)) (e2_cuts_ok hen ha hcall (hC [192, 195]) (X := e2x_230) ex2_230 (e2_cuts_len hl0 (by decide +kernel)) ck_b560_u120)
  have L_27 : e2_gdM M p l e R s m args below meth c Q D cA A ads r0 49 al_b560_27 [] E_b560_27 h_b560_27 := by
    refine e2_indD (u := 2) (j := 2) (lo := 2147483647) (hi := 2147483667) hl0 (by decide) rfl rfl rfl ci_b560_27 cj_b560_27 ?_
    intro r_27 k_27 hk_27 hp_27 hs_27 hn_27
    have hl_27 : r_27.length ≤ 3 := hs_27.len rfl
    have ha_27 := ha.ext hp_27
    have L_28 : e2_gdM M p l e R s m args below meth c Q D cA A ads r_27 55 al_b560_28 [] E_b560_28 h_b560_28 := by
      refine e2_indL (u := 3) (j := 3) (lo := 2147483648) (hi := 2147483657) (b := 3) (dd := 0) hl_27 (by decide) rfl rfl (Or.inr ⟨rfl, rfl⟩) rfl ci_b560_28 cj_b560_28 ?_
      intro r_28 k_28 hk_28 hp_28 hs_28 hn_28
      have hl_28 : r_28.length ≤ 4 := hs_28.len rfl
      have ha_28 := ha_27.ext hp_28
      exact e2_fromM hen ha_28 hcall (e2_cutA_ok (e2_fa (fun al st E h hc => (hn_27 al st E h hc).ext hp_28) (e2_fa (fun al st E h hc => hn_28 al st E h hc) e2_fz))) (hC [192, 195]) (X := e2x_230) ex2_230 55 ck_b560_28
    have EN_28 := e2_entL (u := 3) (j := 3) (lo := 2147483648) (hi := 2147483657) hl_27 rfl rfl rfl ci_b560_28 cj_b560_28 L_28
    exact e2_fromM hen ha_27 hcall (e2_cutA_ok (e2_fa (fun al st E h hc => (EN_120 al st E h hc).ext hp_27) (e2_fa (fun al st E h hc => EN_28 al st E h hc) e2_fz))) (hC [192, 195]) (X := e2x_230) ex2_230 49 ck_b560_27
  have EN_27 := e2_entL (u := 2) (j := 2) (lo := 2147483647) (hi := 2147483667) hl0 rfl rfl rfl ci_b560_27 cj_b560_27 L_27
  have L_26 : e2_gdM M p l e R s m args below meth c Q D cA A ads r0 2 al_b560_26 [] E_b560_26 h_b560_26 := by
    refine e2_indL (u := 2) (j := 2) (lo := 2147483648) (hi := 2147483657) (b := 2) (dd := 0) hl0 (by decide) rfl rfl (Or.inr ⟨rfl, rfl⟩) rfl ci_b560_26 cj_b560_26 ?_
    intro r_26 k_26 hk_26 hp_26 hs_26 hn_26
    have hl_26 : r_26.length ≤ 3 := hs_26.len rfl
    have ha_26 := ha.ext hp_26
    exact e2_fromM hen ha_26 hcall (e2_cutA_ok (e2_fa (fun al st E h hc => hn_26 al st E h hc) (e2_fa (fun al st E h hc => (EN_27 al st E h hc).ext hp_26) e2_fz))) (hC [192, 195]) (X := e2x_230) ex2_230 2 ck_b560_26
  have EN_26 := e2_entL (u := 2) (j := 2) (lo := 2147483648) (hi := 2147483657) hl0 rfl rfl rfl ci_b560_26 cj_b560_26 L_26
  exact e2_from hen ha hcall (e2_cutA_ok (e2_fa (fun al st E h hc => EN_26 al st E h hc) e2_fz)) (hC [192, 195]) (X := e2x_230) ex2_230 0 ck_b560_e
/-! b561 X10_read -/
def as_b561 : List ev_V := [(2, 83, 0), (11, 0, 4294967295)]
def E_b561 : e2_E := [(2147483648, 2147583648, 0, 0), (2147483653, 2147483653, 1, 0)]
def bc288 : ev_C := (50, [(11, 2147483649, 2147483654), (11, 2147483649, 2147483654), (11, 2147483649, 2147483654), (11, 2147483649, 2147483654), (11, 2147483649, 2147483654), (11, 2147483648, 2147483654), (11, 2147483648, 2147483654), (11, 2147483648, 2147483654), (11, 2147483648, 2147483654), (11, 2147483648, 2147483654), (11, 2147483648, 2147483654), (11, 2147483648, 2147483654), (11, 2147483648, 2147483654), (11, 2147483648, 2147483654), (11, 2147483648, 2147483654), (11, 2147483648, 2147483654)])
def bn3953 : e2_Q1 := (bc288, bc3)
def bn3954 : e2_Q2 := (bn130, bn3953)
def bn3955 : e2_Q3 := (bn129, bn3954)
def bn3956 : e2_Q4 := (bn3955, bn3573)
def bn3957 : e2_Q5 := (bn3956, bn156)
def bn3958 : e2_Q6 := (bn3957, bn3621)
def bn3959 : e2_Q7 := (bn3958, bn3594)
def bn3960 : e2_Q8 := (bn3611, bn3959)
noncomputable def f_b561 : ev_H := (bn3960 : e2_Q8)
noncomputable def q_b561_0 : ev_H := (bn3960 : e2_Q8)
noncomputable def rs_b561 : e2_Rs := [((11, 2147483647, 2147483668), q_b561_0)]
noncomputable def s_b561 : e2_Sm := (230, as_b561, E_b561, f_b561, rs_b561)
noncomputable def S_b561 : List e2_Sm := [s_b554]
noncomputable def I_b561 : List e2_In := [(216, 1, e2x_216), (217, 1, e2x_217), (227, 2, e2x_227)]
set_option maxRecDepth 1000000 in
theorem co_b561 : e2_okSB E_b561.length as_b561 f_b561 rs_b561 = true := by decide +kernel
def al_b561_26 : List ev_V := [(2, 83, 0), (11, 0, 4294967295), (1, 2, 4294967296), (9, 0, 0), (9, 0, 0)]
def E_b561_26 : e2_E := [(2147483648, 2147583648, 0, 0), (2147483653, 2147483653, 1, 0), (2147483648, 2147483657, 2, 0)]
noncomputable def h_b561_26 : ev_H := (bn3960 : e2_Q8)
def al_b561_27 : List ev_V := [(2, 83, 0), (11, 0, 4294967295), (1, 2, 4294967296), (9, 0, 0), (9, 0, 0)]
def E_b561_27 : e2_E := [(2147483648, 2147583648, 0, 0), (2147483653, 2147483653, 1, 0), (2147483647, 2147483667, 2, 0)]
noncomputable def h_b561_27 : ev_H := (bn3960 : e2_Q8)
def al_b561_28 : List ev_V := [(2, 83, 0), (11, 0, 4294967295), (1, 2, 4294967296), (1, 3, 4294967296), (9, 0, 0)]
def E_b561_28 : e2_E := [(2147483648, 2147583648, 0, 0), (2147483653, 2147483653, 1, 0), (2147483648, 2147483667, 2, 0), (2147483648, 2147483657, 3, 0)]
noncomputable def h_b561_28 : ev_H := (bn3960 : e2_Q8)
def bn3961 : e2_Q7 := (bn3958, bn3630)
def bn3962 : e2_Q8 := (bn3611, bn3961)
noncomputable def h_b561_0 : ev_H := (bn3962 : e2_Q8)
def bn3963 : e2_Q7 := (bn3958, bn3648)
def bn3964 : e2_Q8 := (bn3611, bn3963)
noncomputable def h_b561_1 : ev_H := (bn3964 : e2_Q8)
def bn3965 : e2_Q7 := (bn3958, bn3656)
def bn3966 : e2_Q8 := (bn3611, bn3965)
noncomputable def h_b561_2 : ev_H := (bn3966 : e2_Q8)
def bn3967 : e2_Q7 := (bn3958, bn3664)
def bn3968 : e2_Q8 := (bn3611, bn3967)
noncomputable def h_b561_3 : ev_H := (bn3968 : e2_Q8)
def bn3969 : e2_Q7 := (bn3958, bn3672)
def bn3970 : e2_Q8 := (bn3611, bn3969)
noncomputable def h_b561_4 : ev_H := (bn3970 : e2_Q8)
def bn3971 : e2_Q7 := (bn3958, bn3680)
def bn3972 : e2_Q8 := (bn3611, bn3971)
noncomputable def h_b561_5 : ev_H := (bn3972 : e2_Q8)
def bn3973 : e2_Q7 := (bn3958, bn3688)
def bn3974 : e2_Q8 := (bn3611, bn3973)
noncomputable def h_b561_6 : ev_H := (bn3974 : e2_Q8)
def bn3975 : e2_Q7 := (bn3958, bn3696)
def bn3976 : e2_Q8 := (bn3611, bn3975)
noncomputable def h_b561_7 : ev_H := (bn3976 : e2_Q8)
def bn3977 : e2_Q7 := (bn3958, bn3704)
def bn3978 : e2_Q8 := (bn3611, bn3977)
noncomputable def h_b561_8 : ev_H := (bn3978 : e2_Q8)
def bn3979 : e2_Q7 := (bn3958, bn3712)
def bn3980 : e2_Q8 := (bn3611, bn3979)
noncomputable def h_b561_9 : ev_H := (bn3980 : e2_Q8)
def bn3981 : e2_Q7 := (bn3958, bn3720)
def bn3982 : e2_Q8 := (bn3611, bn3981)
noncomputable def h_b561_10 : ev_H := (bn3982 : e2_Q8)
def bn3983 : e2_Q7 := (bn3958, bn3728)
def bn3984 : e2_Q8 := (bn3611, bn3983)
noncomputable def h_b561_11 : ev_H := (bn3984 : e2_Q8)
def bn3985 : e2_Q7 := (bn3958, bn3736)
def bn3986 : e2_Q8 := (bn3611, bn3985)
noncomputable def h_b561_12 : ev_H := (bn3986 : e2_Q8)
def bn3987 : e2_Q7 := (bn3958, bn3744)
def bn3988 : e2_Q8 := (bn3611, bn3987)
noncomputable def h_b561_13 : ev_H := (bn3988 : e2_Q8)
def bn3989 : e2_Q7 := (bn3958, bn3752)
def bn3990 : e2_Q8 := (bn3611, bn3989)
noncomputable def h_b561_14 : ev_H := (bn3990 : e2_Q8)
def bn3991 : e2_Q7 := (bn3958, bn3760)
def bn3992 : e2_Q8 := (bn3611, bn3991)
noncomputable def h_b561_15 : ev_H := (bn3992 : e2_Q8)
def bn3993 : e2_Q7 := (bn3958, bn3768)
def bn3994 : e2_Q8 := (bn3611, bn3993)
noncomputable def h_b561_16 : ev_H := (bn3994 : e2_Q8)
def bn3995 : e2_Q7 := (bn3958, bn3776)
def bn3996 : e2_Q8 := (bn3611, bn3995)
noncomputable def h_b561_17 : ev_H := (bn3996 : e2_Q8)
def bn3997 : e2_Q7 := (bn3958, bn3784)
def bn3998 : e2_Q8 := (bn3611, bn3997)
noncomputable def h_b561_18 : ev_H := (bn3998 : e2_Q8)
def bn3999 : e2_Q7 := (bn3958, bn3792)
def bn4000 : e2_Q8 := (bn3611, bn3999)
noncomputable def h_b561_19 : ev_H := (bn4000 : e2_Q8)
noncomputable def h_b561_20 : ev_H := (bn3960 : e2_Q8)
def bn4001 : e2_Q7 := (bn3958, bn3800)
def bn4002 : e2_Q8 := (bn3611, bn4001)
noncomputable def h_b561_21 : ev_H := (bn4002 : e2_Q8)
noncomputable def h_b561_22 : ev_H := (bn4002 : e2_Q8)
noncomputable def h_b561_23 : ev_H := (bn4002 : e2_Q8)
noncomputable def h_b561_24 : ev_H := (bn4002 : e2_Q8)
noncomputable def h_b561_25 : ev_H := (bn4002 : e2_Q8)
noncomputable def cu_b561_120 : List e2_Cu := [([(2, 83, 0), (11, 0, 4294967295), (0, 0, 0), (0, 8, 0), (9, 0, 0)], [(2147483648, 2147583648, 0, 0), (2147483653, 2147483653, 1, 0)], h_b561_0),
  ([(2, 83, 0), (11, 0, 4294967295), (0, 1, 0), (11, 2147483648, 2147483656), (11, 2147483647, 2147483652)], [(2147483648, 2147583648, 0, 0), (2147483653, 2147483653, 1, 0)], h_b561_1),
  ([(2, 83, 0), (11, 0, 4294967295), (0, 2, 0), (11, 2147483648, 2147483656), (11, 2147483647, 2147483652)], [(2147483648, 2147583648, 0, 0), (2147483653, 2147483653, 1, 0)], h_b561_2),
  ([(2, 83, 0), (11, 0, 4294967295), (0, 3, 0), (11, 2147483648, 2147483656), (11, 2147483647, 2147483652)], [(2147483648, 2147583648, 0, 0), (2147483653, 2147483653, 1, 0)], h_b561_3),
  ([(2, 83, 0), (11, 0, 4294967295), (0, 4, 0), (11, 2147483648, 2147483656), (11, 2147483647, 2147483652)], [(2147483648, 2147583648, 0, 0), (2147483653, 2147483653, 1, 0)], h_b561_4),
  ([(2, 83, 0), (11, 0, 4294967295), (0, 5, 0), (11, 2147483648, 2147483656), (11, 2147483647, 2147483652)], [(2147483648, 2147583648, 0, 0), (2147483653, 2147483653, 1, 0)], h_b561_5),
  ([(2, 83, 0), (11, 0, 4294967295), (0, 6, 0), (11, 2147483648, 2147483656), (11, 2147483647, 2147483652)], [(2147483648, 2147583648, 0, 0), (2147483653, 2147483653, 1, 0)], h_b561_6),
  ([(2, 83, 0), (11, 0, 4294967295), (0, 7, 0), (11, 2147483648, 2147483656), (11, 2147483647, 2147483652)], [(2147483648, 2147583648, 0, 0), (2147483653, 2147483653, 1, 0)], h_b561_7),
  ([(2, 83, 0), (11, 0, 4294967295), (0, 8, 0), (11, 2147483648, 2147483656), (11, 2147483647, 2147483652)], [(2147483648, 2147583648, 0, 0), (2147483653, 2147483653, 1, 0)], h_b561_8),
  ([(2, 83, 0), (11, 0, 4294967295), (0, 9, 0), (11, 2147483648, 2147483656), (11, 2147483647, 2147483652)], [(2147483648, 2147583648, 0, 0), (2147483653, 2147483653, 1, 0)], h_b561_9),
  ([(2, 83, 0), (11, 0, 4294967295), (0, 10, 0), (11, 2147483648, 2147483656), (11, 2147483647, 2147483652)], [(2147483648, 2147583648, 0, 0), (2147483653, 2147483653, 1, 0)], h_b561_10),
  ([(2, 83, 0), (11, 0, 4294967295), (0, 11, 0), (11, 2147483648, 2147483656), (11, 2147483647, 2147483652)], [(2147483648, 2147583648, 0, 0), (2147483653, 2147483653, 1, 0)], h_b561_11),
  ([(2, 83, 0), (11, 0, 4294967295), (0, 12, 0), (11, 2147483648, 2147483656), (11, 2147483647, 2147483652)], [(2147483648, 2147583648, 0, 0), (2147483653, 2147483653, 1, 0)], h_b561_12),
  ([(2, 83, 0), (11, 0, 4294967295), (0, 13, 0), (11, 2147483648, 2147483656), (11, 2147483647, 2147483652)], [(2147483648, 2147583648, 0, 0), (2147483653, 2147483653, 1, 0)], h_b561_13),
  ([(2, 83, 0), (11, 0, 4294967295), (0, 14, 0), (11, 2147483648, 2147483656), (11, 2147483647, 2147483652)], [(2147483648, 2147583648, 0, 0), (2147483653, 2147483653, 1, 0)], h_b561_14),
  ([(2, 83, 0), (11, 0, 4294967295), (0, 15, 0), (11, 2147483648, 2147483656), (11, 2147483647, 2147483652)], [(2147483648, 2147583648, 0, 0), (2147483653, 2147483653, 1, 0)], h_b561_15),
  ([(2, 83, 0), (11, 0, 4294967295), (0, 16, 0), (11, 2147483648, 2147483656), (11, 2147483647, 2147483652)], [(2147483648, 2147583648, 0, 0), (2147483653, 2147483653, 1, 0)], h_b561_16),
  ([(2, 83, 0), (11, 0, 4294967295), (0, 17, 0), (11, 2147483648, 2147483656), (11, 2147483647, 2147483652)], [(2147483648, 2147583648, 0, 0), (2147483653, 2147483653, 1, 0)], h_b561_17),
  ([(2, 83, 0), (11, 0, 4294967295), (0, 18, 0), (11, 2147483648, 2147483656), (11, 2147483647, 2147483652)], [(2147483648, 2147583648, 0, 0), (2147483653, 2147483653, 1, 0)], h_b561_18),
  ([(2, 83, 0), (11, 0, 4294967295), (0, 19, 0), (11, 2147483648, 2147483656), (11, 2147483647, 2147483652)], [(2147483648, 2147583648, 0, 0), (2147483653, 2147483653, 1, 0)], h_b561_19),
  ([(2, 83, 0), (11, 0, 4294967295), (0, 20, 0), (11, 2147483648, 2147483656), (11, 2147483647, 2147483652)], [(2147483648, 2147583648, 0, 0), (2147483653, 2147483653, 1, 0)], h_b561_20),
  ([(2, 83, 0), (11, 0, 4294967295), (0, 21, 0), (11, 2147483648, 2147483652), (11, 2147483648, 2147483652)], [(2147483648, 2147583648, 0, 0), (2147483653, 2147483653, 1, 0)], h_b561_21),
  ([(2, 83, 0), (11, 0, 4294967295), (0, 22, 0), (11, 2147483648, 2147483652), (11, 2147483648, 2147483652)], [(2147483648, 2147583648, 0, 0), (2147483653, 2147483653, 1, 0)], h_b561_22),
  ([(2, 83, 0), (11, 0, 4294967295), (0, 23, 0), (11, 2147483648, 2147483652), (11, 2147483648, 2147483652)], [(2147483648, 2147583648, 0, 0), (2147483653, 2147483653, 1, 0)], h_b561_23),
  ([(2, 83, 0), (11, 0, 4294967295), (0, 24, 0), (11, 2147483648, 2147483652), (11, 2147483648, 2147483652)], [(2147483648, 2147583648, 0, 0), (2147483653, 2147483653, 1, 0)], h_b561_24),
  ([(2, 83, 0), (11, 0, 4294967295), (0, 25, 0), (11, 2147483648, 2147483652), (11, 2147483648, 2147483652)], [(2147483648, 2147583648, 0, 0), (2147483653, 2147483653, 1, 0)], h_b561_25)]
noncomputable def cl_b561_e : List (Nat × e2_S) := [(2, e2_cutL (al_b561_26.set 2 (11, 2147483648, 2147483657)) 2 (E_b561_26.take 2) h_b561_26)]
set_option maxRecDepth 1000000 in
theorem ck_b561_e : e2_run (e2_orG 231 83 11 2 2147483648 2147483668 as_b555 Eb_b555 f_b555 rs_b555 (e2_cal S_b561 I_b561 4000 1)) (e2_fin rs_b561) e2x_230 (e2_bpL cl_b561_e) (e2_cutA cl_b561_e) 4000 (e2_seek e2x_230 0) (e2_al 5 as_b561) [] E_b561 f_b561 = true := by decide +kernel
noncomputable def cl_b561_26 : List (Nat × e2_S) := [(2, e2_cutL (al_b561_26.set 2 (13, 10, 2147483657)) 2 (E_b561_26.take 2) h_b561_26),
  (49, e2_cutL (al_b561_27.set 2 (11, 2147483647, 2147483667)) 2 (E_b561_27.take 2) h_b561_27)]
set_option maxRecDepth 1000000 in
theorem ck_b561_26 : e2_runM (e2_orG 231 83 11 2 2147483648 2147483668 as_b555 Eb_b555 f_b555 rs_b555 (e2_cal S_b561 I_b561 4000 1)) (e2_fin rs_b561) e2x_230 (e2_bpL cl_b561_26) (e2_cutA cl_b561_26) 4000 (e2_seek e2x_230 2) al_b561_26 [] E_b561_26 h_b561_26 = true := by decide +kernel
set_option maxRecDepth 1000000 in
theorem ci_b561_26 : e2_idl 2 (al_b561_26.set 2 (9, 0, 0)) = true := by decide +kernel
set_option maxRecDepth 1000000 in
theorem cj_b561_26 : e2_idh 2 8 h_b561_26 = true := by decide +kernel
noncomputable def cl_b561_27 : List (Nat × e2_S) := [(120, e2_cutS cu_b561_120),
  (55, e2_cutL (al_b561_28.set 3 (11, 2147483648, 2147483657)) 3 (E_b561_28.take 3) h_b561_28)]
set_option maxRecDepth 1000000 in
theorem ck_b561_27 : e2_runM (e2_orG 231 83 11 2 2147483648 2147483668 as_b555 Eb_b555 f_b555 rs_b555 (e2_cal S_b561 I_b561 4000 1)) (e2_fin rs_b561) e2x_230 (e2_bpL cl_b561_27) (e2_cutA cl_b561_27) 4000 (e2_seek e2x_230 49) al_b561_27 [] E_b561_27 h_b561_27 = true := by decide +kernel
set_option maxRecDepth 1000000 in
theorem ci_b561_27 : e2_idl 2 (al_b561_27.set 2 (9, 0, 0)) = true := by decide +kernel
set_option maxRecDepth 1000000 in
theorem cj_b561_27 : e2_idh 2 8 h_b561_27 = true := by decide +kernel
noncomputable def cl_b561_28 : List (Nat × e2_S) := [(49, e2_cutL (al_b561_27.set 2 (12, 10, 2147483647)) 2 (E_b561_27.take 2) h_b561_27),
  (55, e2_cutL (al_b561_28.set 3 (13, 11, 2147483657)) 3 (E_b561_28.take 3) h_b561_28)]
set_option maxRecDepth 1000000 in
theorem ck_b561_28 : e2_runM (e2_orG 231 83 11 2 2147483648 2147483668 as_b555 Eb_b555 f_b555 rs_b555 (e2_cal S_b561 I_b561 4000 1)) (e2_fin rs_b561) e2x_230 (e2_bpL cl_b561_28) (e2_cutA cl_b561_28) 4000 (e2_seek e2x_230 55) al_b561_28 [] E_b561_28 h_b561_28 = true := by decide +kernel
set_option maxRecDepth 1000000 in
theorem ci_b561_28 : e2_idl 3 (al_b561_28.set 3 (9, 0, 0)) = true := by decide +kernel
set_option maxRecDepth 1000000 in
theorem cj_b561_28 : e2_idh 3 8 h_b561_28 = true := by decide +kernel
set_option maxRecDepth 1000000 in
theorem ck_b561_u120 : e2_cutsB (e2_orG 231 83 11 2 2147483648 2147483668 as_b555 Eb_b555 f_b555 rs_b555 (e2_cal S_b561 I_b561 4000 1)) (e2_fin rs_b561) e2x_230 120 4000 cu_b561_120 = true := by decide +kernel
theorem cs_b561 (hen : en_ok) (l : Launch) : e2_smOk l 5 s_b561 := by
  refine e2_conC (H := 4) (C := evd_230) ei_230 (fun d hd => (e2_orG_ok (e2_cal_ok hen (e2_fa (cs_b554 hen l) e2_fz) (e2_fa ein_216 (e2_fa ein_217 (e2_fa ein_227 e2_fz))) 1 d (by omega)) rfl (by decide) (fun M hM => (cs_b555 hen l).2 M hM d (by omega)) (e2_okGB_ok cog_b555))) (by decide) co_b561 fun M d _ hC hcall p e R s m args below meth c Q D cA A ads r0 ha hl0 => ?_
  have EN_120 := e2_cutS_ok (bp := 120) (cuts := cu_b561_120) (e2_cuts_len hl0 (by decide +kernel)) (e2_cuts_ok hen ha hcall (hC [192, 195]) (X := e2x_230) ex2_230 (e2_cuts_len hl0 (by decide +kernel)) ck_b561_u120)
  have L_27 : e2_gdM M p l e R s m args below meth c Q D cA A ads r0 49 al_b561_27 [] E_b561_27 h_b561_27 := by
    refine e2_indD (u := 2) (j := 2) (lo := 2147483647) (hi := 2147483667) hl0 (by decide) rfl rfl rfl ci_b561_27 cj_b561_27 ?_
    intro r_27 k_27 hk_27 hp_27 hs_27 hn_27
    have hl_27 : r_27.length ≤ 3 := hs_27.len rfl
    have ha_27 := ha.ext hp_27
    have L_28 : e2_gdM M p l e R s m args below meth c Q D cA A ads r_27 55 al_b561_28 [] E_b561_28 h_b561_28 := by
      refine e2_indL (u := 3) (j := 3) (lo := 2147483648) (hi := 2147483657) (b := 3) (dd := 0) hl_27 (by decide) rfl rfl (Or.inr ⟨rfl, rfl⟩) rfl ci_b561_28 cj_b561_28 ?_
      intro r_28 k_28 hk_28 hp_28 hs_28 hn_28
      have hl_28 : r_28.length ≤ 4 := hs_28.len rfl
      have ha_28 := ha_27.ext hp_28
      exact e2_fromM hen ha_28 hcall (e2_cutA_ok (e2_fa (fun al st E h hc => (hn_27 al st E h hc).ext hp_28) (e2_fa (fun al st E h hc => hn_28 al st E h hc) e2_fz))) (hC [192, 195]) (X := e2x_230) ex2_230 55 ck_b561_28
    have EN_28 := e2_entL (u := 3) (j := 3) (lo := 2147483648) (hi := 2147483657) hl_27 rfl rfl rfl ci_b561_28 cj_b561_28 L_28
    exact e2_fromM hen ha_27 hcall (e2_cutA_ok (e2_fa (fun al st E h hc => (EN_120 al st E h hc).ext hp_27) (e2_fa (fun al st E h hc => EN_28 al st E h hc) e2_fz))) (hC [192, 195]) (X := e2x_230) ex2_230 49 ck_b561_27
  have EN_27 := e2_entL (u := 2) (j := 2) (lo := 2147483647) (hi := 2147483667) hl0 rfl rfl rfl ci_b561_27 cj_b561_27 L_27
  have L_26 : e2_gdM M p l e R s m args below meth c Q D cA A ads r0 2 al_b561_26 [] E_b561_26 h_b561_26 := by
    refine e2_indL (u := 2) (j := 2) (lo := 2147483648) (hi := 2147483657) (b := 2) (dd := 0) hl0 (by decide) rfl rfl (Or.inr ⟨rfl, rfl⟩) rfl ci_b561_26 cj_b561_26 ?_
    intro r_26 k_26 hk_26 hp_26 hs_26 hn_26
    have hl_26 : r_26.length ≤ 3 := hs_26.len rfl
    have ha_26 := ha.ext hp_26
    exact e2_fromM hen ha_26 hcall (e2_cutA_ok (e2_fa (fun al st E h hc => hn_26 al st E h hc) (e2_fa (fun al st E h hc => (EN_27 al st E h hc).ext hp_26) e2_fz))) (hC [192, 195]) (X := e2x_230) ex2_230 2 ck_b561_26
  have EN_26 := e2_entL (u := 2) (j := 2) (lo := 2147483648) (hi := 2147483657) hl0 rfl rfl rfl ci_b561_26 cj_b561_26 L_26
  exact e2_from hen ha hcall (e2_cutA_ok (e2_fa (fun al st E h hc => EN_26 al st E h hc) e2_fz)) (hC [192, 195]) (X := e2x_230) ex2_230 0 ck_b561_e
/-! b562 X10_read -/
def as_b562 : List ev_V := [(2, 83, 0), (11, 0, 4294967295)]
def E_b562 : e2_E := [(2147483648, 2147583648, 0, 0), (2147483654, 2147483654, 1, 0)]
def bc289 : ev_C := (50, [(11, 2147483649, 2147483654), (11, 2147483649, 2147483654), (11, 2147483649, 2147483654), (11, 2147483649, 2147483654), (11, 2147483649, 2147483654), (11, 2147483649, 2147483654), (11, 2147483648, 2147483654), (11, 2147483648, 2147483654), (11, 2147483648, 2147483654), (11, 2147483648, 2147483654), (11, 2147483648, 2147483654), (11, 2147483648, 2147483654), (11, 2147483648, 2147483654), (11, 2147483648, 2147483654), (11, 2147483648, 2147483654), (11, 2147483648, 2147483654)])
def bn4003 : e2_Q1 := (bc289, bc3)
def bn4004 : e2_Q2 := (bn130, bn4003)
def bn4005 : e2_Q3 := (bn129, bn4004)
def bn4006 : e2_Q4 := (bn4005, bn3573)
def bn4007 : e2_Q5 := (bn4006, bn156)
def bn4008 : e2_Q6 := (bn4007, bn3621)
def bn4009 : e2_Q7 := (bn4008, bn3594)
def bn4010 : e2_Q8 := (bn3611, bn4009)
noncomputable def f_b562 : ev_H := (bn4010 : e2_Q8)
noncomputable def q_b562_0 : ev_H := (bn4010 : e2_Q8)
noncomputable def rs_b562 : e2_Rs := [((11, 2147483647, 2147483668), q_b562_0)]
noncomputable def s_b562 : e2_Sm := (230, as_b562, E_b562, f_b562, rs_b562)
noncomputable def S_b562 : List e2_Sm := [s_b554]
noncomputable def I_b562 : List e2_In := [(216, 1, e2x_216), (217, 1, e2x_217), (227, 2, e2x_227)]
set_option maxRecDepth 1000000 in
theorem co_b562 : e2_okSB E_b562.length as_b562 f_b562 rs_b562 = true := by decide +kernel
def al_b562_26 : List ev_V := [(2, 83, 0), (11, 0, 4294967295), (1, 2, 4294967296), (9, 0, 0), (9, 0, 0)]
def E_b562_26 : e2_E := [(2147483648, 2147583648, 0, 0), (2147483654, 2147483654, 1, 0), (2147483648, 2147483657, 2, 0)]
noncomputable def h_b562_26 : ev_H := (bn4010 : e2_Q8)
def al_b562_27 : List ev_V := [(2, 83, 0), (11, 0, 4294967295), (1, 2, 4294967296), (9, 0, 0), (9, 0, 0)]
def E_b562_27 : e2_E := [(2147483648, 2147583648, 0, 0), (2147483654, 2147483654, 1, 0), (2147483647, 2147483667, 2, 0)]
noncomputable def h_b562_27 : ev_H := (bn4010 : e2_Q8)
def al_b562_28 : List ev_V := [(2, 83, 0), (11, 0, 4294967295), (1, 2, 4294967296), (1, 3, 4294967296), (9, 0, 0)]
def E_b562_28 : e2_E := [(2147483648, 2147583648, 0, 0), (2147483654, 2147483654, 1, 0), (2147483648, 2147483667, 2, 0), (2147483648, 2147483657, 3, 0)]
noncomputable def h_b562_28 : ev_H := (bn4010 : e2_Q8)
def bn4011 : e2_Q7 := (bn4008, bn3630)
def bn4012 : e2_Q8 := (bn3611, bn4011)
noncomputable def h_b562_0 : ev_H := (bn4012 : e2_Q8)
def bn4013 : e2_Q7 := (bn4008, bn3648)
def bn4014 : e2_Q8 := (bn3611, bn4013)
noncomputable def h_b562_1 : ev_H := (bn4014 : e2_Q8)
def bn4015 : e2_Q7 := (bn4008, bn3656)
def bn4016 : e2_Q8 := (bn3611, bn4015)
noncomputable def h_b562_2 : ev_H := (bn4016 : e2_Q8)
def bn4017 : e2_Q7 := (bn4008, bn3664)
def bn4018 : e2_Q8 := (bn3611, bn4017)
noncomputable def h_b562_3 : ev_H := (bn4018 : e2_Q8)
def bn4019 : e2_Q7 := (bn4008, bn3672)
def bn4020 : e2_Q8 := (bn3611, bn4019)
noncomputable def h_b562_4 : ev_H := (bn4020 : e2_Q8)
def bn4021 : e2_Q7 := (bn4008, bn3680)
def bn4022 : e2_Q8 := (bn3611, bn4021)
noncomputable def h_b562_5 : ev_H := (bn4022 : e2_Q8)
def bn4023 : e2_Q7 := (bn4008, bn3688)
def bn4024 : e2_Q8 := (bn3611, bn4023)
noncomputable def h_b562_6 : ev_H := (bn4024 : e2_Q8)
def bn4025 : e2_Q7 := (bn4008, bn3696)
def bn4026 : e2_Q8 := (bn3611, bn4025)
noncomputable def h_b562_7 : ev_H := (bn4026 : e2_Q8)
def bn4027 : e2_Q7 := (bn4008, bn3704)
def bn4028 : e2_Q8 := (bn3611, bn4027)
noncomputable def h_b562_8 : ev_H := (bn4028 : e2_Q8)
def bn4029 : e2_Q7 := (bn4008, bn3712)
def bn4030 : e2_Q8 := (bn3611, bn4029)
noncomputable def h_b562_9 : ev_H := (bn4030 : e2_Q8)
def bn4031 : e2_Q7 := (bn4008, bn3720)
def bn4032 : e2_Q8 := (bn3611, bn4031)
noncomputable def h_b562_10 : ev_H := (bn4032 : e2_Q8)
def bn4033 : e2_Q7 := (bn4008, bn3728)
def bn4034 : e2_Q8 := (bn3611, bn4033)
noncomputable def h_b562_11 : ev_H := (bn4034 : e2_Q8)
def bn4035 : e2_Q7 := (bn4008, bn3736)
def bn4036 : e2_Q8 := (bn3611, bn4035)
noncomputable def h_b562_12 : ev_H := (bn4036 : e2_Q8)
def bn4037 : e2_Q7 := (bn4008, bn3744)
def bn4038 : e2_Q8 := (bn3611, bn4037)
noncomputable def h_b562_13 : ev_H := (bn4038 : e2_Q8)
def bn4039 : e2_Q7 := (bn4008, bn3752)
def bn4040 : e2_Q8 := (bn3611, bn4039)
noncomputable def h_b562_14 : ev_H := (bn4040 : e2_Q8)
def bn4041 : e2_Q7 := (bn4008, bn3760)
def bn4042 : e2_Q8 := (bn3611, bn4041)
noncomputable def h_b562_15 : ev_H := (bn4042 : e2_Q8)
def bn4043 : e2_Q7 := (bn4008, bn3768)
def bn4044 : e2_Q8 := (bn3611, bn4043)
noncomputable def h_b562_16 : ev_H := (bn4044 : e2_Q8)
def bn4045 : e2_Q7 := (bn4008, bn3776)
def bn4046 : e2_Q8 := (bn3611, bn4045)
noncomputable def h_b562_17 : ev_H := (bn4046 : e2_Q8)
def bn4047 : e2_Q7 := (bn4008, bn3784)
def bn4048 : e2_Q8 := (bn3611, bn4047)
noncomputable def h_b562_18 : ev_H := (bn4048 : e2_Q8)
def bn4049 : e2_Q7 := (bn4008, bn3792)
def bn4050 : e2_Q8 := (bn3611, bn4049)
noncomputable def h_b562_19 : ev_H := (bn4050 : e2_Q8)
noncomputable def h_b562_20 : ev_H := (bn4010 : e2_Q8)
def bn4051 : e2_Q7 := (bn4008, bn3800)
def bn4052 : e2_Q8 := (bn3611, bn4051)
noncomputable def h_b562_21 : ev_H := (bn4052 : e2_Q8)
noncomputable def h_b562_22 : ev_H := (bn4052 : e2_Q8)
noncomputable def h_b562_23 : ev_H := (bn4052 : e2_Q8)
noncomputable def h_b562_24 : ev_H := (bn4052 : e2_Q8)
noncomputable def h_b562_25 : ev_H := (bn4052 : e2_Q8)
noncomputable def cu_b562_120 : List e2_Cu := [([(2, 83, 0), (11, 0, 4294967295), (0, 0, 0), (0, 8, 0), (9, 0, 0)], [(2147483648, 2147583648, 0, 0), (2147483654, 2147483654, 1, 0)], h_b562_0),
  ([(2, 83, 0), (11, 0, 4294967295), (0, 1, 0), (11, 2147483648, 2147483656), (11, 2147483647, 2147483653)], [(2147483648, 2147583648, 0, 0), (2147483654, 2147483654, 1, 0)], h_b562_1),
  ([(2, 83, 0), (11, 0, 4294967295), (0, 2, 0), (11, 2147483648, 2147483656), (11, 2147483647, 2147483653)], [(2147483648, 2147583648, 0, 0), (2147483654, 2147483654, 1, 0)], h_b562_2),
  ([(2, 83, 0), (11, 0, 4294967295), (0, 3, 0), (11, 2147483648, 2147483656), (11, 2147483647, 2147483653)], [(2147483648, 2147583648, 0, 0), (2147483654, 2147483654, 1, 0)], h_b562_3),
  ([(2, 83, 0), (11, 0, 4294967295), (0, 4, 0), (11, 2147483648, 2147483656), (11, 2147483647, 2147483653)], [(2147483648, 2147583648, 0, 0), (2147483654, 2147483654, 1, 0)], h_b562_4),
  ([(2, 83, 0), (11, 0, 4294967295), (0, 5, 0), (11, 2147483648, 2147483656), (11, 2147483647, 2147483653)], [(2147483648, 2147583648, 0, 0), (2147483654, 2147483654, 1, 0)], h_b562_5),
  ([(2, 83, 0), (11, 0, 4294967295), (0, 6, 0), (11, 2147483648, 2147483656), (11, 2147483647, 2147483653)], [(2147483648, 2147583648, 0, 0), (2147483654, 2147483654, 1, 0)], h_b562_6),
  ([(2, 83, 0), (11, 0, 4294967295), (0, 7, 0), (11, 2147483648, 2147483656), (11, 2147483647, 2147483653)], [(2147483648, 2147583648, 0, 0), (2147483654, 2147483654, 1, 0)], h_b562_7),
  ([(2, 83, 0), (11, 0, 4294967295), (0, 8, 0), (11, 2147483648, 2147483656), (11, 2147483647, 2147483653)], [(2147483648, 2147583648, 0, 0), (2147483654, 2147483654, 1, 0)], h_b562_8),
  ([(2, 83, 0), (11, 0, 4294967295), (0, 9, 0), (11, 2147483648, 2147483656), (11, 2147483647, 2147483653)], [(2147483648, 2147583648, 0, 0), (2147483654, 2147483654, 1, 0)], h_b562_9),
  ([(2, 83, 0), (11, 0, 4294967295), (0, 10, 0), (11, 2147483648, 2147483656), (11, 2147483647, 2147483653)], [(2147483648, 2147583648, 0, 0), (2147483654, 2147483654, 1, 0)], h_b562_10),
  ([(2, 83, 0), (11, 0, 4294967295), (0, 11, 0), (11, 2147483648, 2147483656), (11, 2147483647, 2147483653)], [(2147483648, 2147583648, 0, 0), (2147483654, 2147483654, 1, 0)], h_b562_11),
  ([(2, 83, 0), (11, 0, 4294967295), (0, 12, 0), (11, 2147483648, 2147483656), (11, 2147483647, 2147483653)], [(2147483648, 2147583648, 0, 0), (2147483654, 2147483654, 1, 0)], h_b562_12),
  ([(2, 83, 0), (11, 0, 4294967295), (0, 13, 0), (11, 2147483648, 2147483656), (11, 2147483647, 2147483653)], [(2147483648, 2147583648, 0, 0), (2147483654, 2147483654, 1, 0)], h_b562_13),
  ([(2, 83, 0), (11, 0, 4294967295), (0, 14, 0), (11, 2147483648, 2147483656), (11, 2147483647, 2147483653)], [(2147483648, 2147583648, 0, 0), (2147483654, 2147483654, 1, 0)], h_b562_14),
  ([(2, 83, 0), (11, 0, 4294967295), (0, 15, 0), (11, 2147483648, 2147483656), (11, 2147483647, 2147483653)], [(2147483648, 2147583648, 0, 0), (2147483654, 2147483654, 1, 0)], h_b562_15),
  ([(2, 83, 0), (11, 0, 4294967295), (0, 16, 0), (11, 2147483648, 2147483656), (11, 2147483647, 2147483653)], [(2147483648, 2147583648, 0, 0), (2147483654, 2147483654, 1, 0)], h_b562_16),
  ([(2, 83, 0), (11, 0, 4294967295), (0, 17, 0), (11, 2147483648, 2147483656), (11, 2147483647, 2147483653)], [(2147483648, 2147583648, 0, 0), (2147483654, 2147483654, 1, 0)], h_b562_17),
  ([(2, 83, 0), (11, 0, 4294967295), (0, 18, 0), (11, 2147483648, 2147483656), (11, 2147483647, 2147483653)], [(2147483648, 2147583648, 0, 0), (2147483654, 2147483654, 1, 0)], h_b562_18),
  ([(2, 83, 0), (11, 0, 4294967295), (0, 19, 0), (11, 2147483648, 2147483656), (11, 2147483647, 2147483653)], [(2147483648, 2147583648, 0, 0), (2147483654, 2147483654, 1, 0)], h_b562_19),
  ([(2, 83, 0), (11, 0, 4294967295), (0, 20, 0), (11, 2147483648, 2147483656), (11, 2147483647, 2147483653)], [(2147483648, 2147583648, 0, 0), (2147483654, 2147483654, 1, 0)], h_b562_20),
  ([(2, 83, 0), (11, 0, 4294967295), (0, 21, 0), (11, 2147483648, 2147483653), (11, 2147483648, 2147483653)], [(2147483648, 2147583648, 0, 0), (2147483654, 2147483654, 1, 0)], h_b562_21),
  ([(2, 83, 0), (11, 0, 4294967295), (0, 22, 0), (11, 2147483648, 2147483653), (11, 2147483648, 2147483653)], [(2147483648, 2147583648, 0, 0), (2147483654, 2147483654, 1, 0)], h_b562_22),
  ([(2, 83, 0), (11, 0, 4294967295), (0, 23, 0), (11, 2147483648, 2147483653), (11, 2147483648, 2147483653)], [(2147483648, 2147583648, 0, 0), (2147483654, 2147483654, 1, 0)], h_b562_23),
  ([(2, 83, 0), (11, 0, 4294967295), (0, 24, 0), (11, 2147483648, 2147483653), (11, 2147483648, 2147483653)], [(2147483648, 2147583648, 0, 0), (2147483654, 2147483654, 1, 0)], h_b562_24),
  ([(2, 83, 0), (11, 0, 4294967295), (0, 25, 0), (11, 2147483648, 2147483653), (11, 2147483648, 2147483653)], [(2147483648, 2147583648, 0, 0), (2147483654, 2147483654, 1, 0)], h_b562_25)]
noncomputable def cl_b562_e : List (Nat × e2_S) := [(2, e2_cutL (al_b562_26.set 2 (11, 2147483648, 2147483657)) 2 (E_b562_26.take 2) h_b562_26)]
set_option maxRecDepth 1000000 in
theorem ck_b562_e : e2_run (e2_orG 231 83 11 2 2147483648 2147483668 as_b555 Eb_b555 f_b555 rs_b555 (e2_cal S_b562 I_b562 4000 1)) (e2_fin rs_b562) e2x_230 (e2_bpL cl_b562_e) (e2_cutA cl_b562_e) 4000 (e2_seek e2x_230 0) (e2_al 5 as_b562) [] E_b562 f_b562 = true := by decide +kernel
noncomputable def cl_b562_26 : List (Nat × e2_S) := [(2, e2_cutL (al_b562_26.set 2 (13, 10, 2147483657)) 2 (E_b562_26.take 2) h_b562_26),
  (49, e2_cutL (al_b562_27.set 2 (11, 2147483647, 2147483667)) 2 (E_b562_27.take 2) h_b562_27)]
set_option maxRecDepth 1000000 in
theorem ck_b562_26 : e2_runM (e2_orG 231 83 11 2 2147483648 2147483668 as_b555 Eb_b555 f_b555 rs_b555 (e2_cal S_b562 I_b562 4000 1)) (e2_fin rs_b562) e2x_230 (e2_bpL cl_b562_26) (e2_cutA cl_b562_26) 4000 (e2_seek e2x_230 2) al_b562_26 [] E_b562_26 h_b562_26 = true := by decide +kernel
set_option maxRecDepth 1000000 in
theorem ci_b562_26 : e2_idl 2 (al_b562_26.set 2 (9, 0, 0)) = true := by decide +kernel
set_option maxRecDepth 1000000 in
theorem cj_b562_26 : e2_idh 2 8 h_b562_26 = true := by decide +kernel
noncomputable def cl_b562_27 : List (Nat × e2_S) := [(120, e2_cutS cu_b562_120),
  (55, e2_cutL (al_b562_28.set 3 (11, 2147483648, 2147483657)) 3 (E_b562_28.take 3) h_b562_28)]
set_option maxRecDepth 1000000 in
theorem ck_b562_27 : e2_runM (e2_orG 231 83 11 2 2147483648 2147483668 as_b555 Eb_b555 f_b555 rs_b555 (e2_cal S_b562 I_b562 4000 1)) (e2_fin rs_b562) e2x_230 (e2_bpL cl_b562_27) (e2_cutA cl_b562_27) 4000 (e2_seek e2x_230 49) al_b562_27 [] E_b562_27 h_b562_27 = true := by decide +kernel
set_option maxRecDepth 1000000 in
theorem ci_b562_27 : e2_idl 2 (al_b562_27.set 2 (9, 0, 0)) = true := by decide +kernel
set_option maxRecDepth 1000000 in
theorem cj_b562_27 : e2_idh 2 8 h_b562_27 = true := by decide +kernel
noncomputable def cl_b562_28 : List (Nat × e2_S) := [(49, e2_cutL (al_b562_27.set 2 (12, 10, 2147483647)) 2 (E_b562_27.take 2) h_b562_27),
  (55, e2_cutL (al_b562_28.set 3 (13, 11, 2147483657)) 3 (E_b562_28.take 3) h_b562_28)]
set_option maxRecDepth 1000000 in
theorem ck_b562_28 : e2_runM (e2_orG 231 83 11 2 2147483648 2147483668 as_b555 Eb_b555 f_b555 rs_b555 (e2_cal S_b562 I_b562 4000 1)) (e2_fin rs_b562) e2x_230 (e2_bpL cl_b562_28) (e2_cutA cl_b562_28) 4000 (e2_seek e2x_230 55) al_b562_28 [] E_b562_28 h_b562_28 = true := by decide +kernel
set_option maxRecDepth 1000000 in
theorem ci_b562_28 : e2_idl 3 (al_b562_28.set 3 (9, 0, 0)) = true := by decide +kernel
set_option maxRecDepth 1000000 in
theorem cj_b562_28 : e2_idh 3 8 h_b562_28 = true := by decide +kernel
set_option maxRecDepth 1000000 in
theorem ck_b562_u120 : e2_cutsB (e2_orG 231 83 11 2 2147483648 2147483668 as_b555 Eb_b555 f_b555 rs_b555 (e2_cal S_b562 I_b562 4000 1)) (e2_fin rs_b562) e2x_230 120 4000 cu_b562_120 = true := by decide +kernel
theorem cs_b562 (hen : en_ok) (l : Launch) : e2_smOk l 5 s_b562 := by
  refine e2_conC (H := 4) (C := evd_230) ei_230 (fun d hd => (e2_orG_ok (e2_cal_ok hen (e2_fa (cs_b554 hen l) e2_fz) (e2_fa ein_216 (e2_fa ein_217 (e2_fa ein_227 e2_fz))) 1 d (by omega)) rfl (by decide) (fun M hM => (cs_b555 hen l).2 M hM d (by omega)) (e2_okGB_ok cog_b555))) (by decide) co_b562 fun M d _ hC hcall p e R s m args below meth c Q D cA A ads r0 ha hl0 => ?_
  have EN_120 := e2_cutS_ok (bp := 120) (cuts := cu_b562_120) (e2_cuts_len hl0 (by decide +kernel)) (e2_cuts_ok hen ha hcall (hC [192, 195]) (X := e2x_230) ex2_230 (e2_cuts_len hl0 (by decide +kernel)) ck_b562_u120)
  have L_27 : e2_gdM M p l e R s m args below meth c Q D cA A ads r0 49 al_b562_27 [] E_b562_27 h_b562_27 := by
    refine e2_indD (u := 2) (j := 2) (lo := 2147483647) (hi := 2147483667) hl0 (by decide) rfl rfl rfl ci_b562_27 cj_b562_27 ?_
    intro r_27 k_27 hk_27 hp_27 hs_27 hn_27
    have hl_27 : r_27.length ≤ 3 := hs_27.len rfl
    have ha_27 := ha.ext hp_27
    have L_28 : e2_gdM M p l e R s m args below meth c Q D cA A ads r_27 55 al_b562_28 [] E_b562_28 h_b562_28 := by
      refine e2_indL (u := 3) (j := 3) (lo := 2147483648) (hi := 2147483657) (b := 3) (dd := 0) hl_27 (by decide) rfl rfl (Or.inr ⟨rfl, rfl⟩) rfl ci_b562_28 cj_b562_28 ?_
      intro r_28 k_28 hk_28 hp_28 hs_28 hn_28
      have hl_28 : r_28.length ≤ 4 := hs_28.len rfl
      have ha_28 := ha_27.ext hp_28
      exact e2_fromM hen ha_28 hcall (e2_cutA_ok (e2_fa (fun al st E h hc => (hn_27 al st E h hc).ext hp_28) (e2_fa (fun al st E h hc => hn_28 al st E h hc) e2_fz))) (hC [192, 195]) (X := e2x_230) ex2_230 55 ck_b562_28
    have EN_28 := e2_entL (u := 3) (j := 3) (lo := 2147483648) (hi := 2147483657) hl_27 rfl rfl rfl ci_b562_28 cj_b562_28 L_28
    exact e2_fromM hen ha_27 hcall (e2_cutA_ok (e2_fa (fun al st E h hc => (EN_120 al st E h hc).ext hp_27) (e2_fa (fun al st E h hc => EN_28 al st E h hc) e2_fz))) (hC [192, 195]) (X := e2x_230) ex2_230 49 ck_b562_27
  have EN_27 := e2_entL (u := 2) (j := 2) (lo := 2147483647) (hi := 2147483667) hl0 rfl rfl rfl ci_b562_27 cj_b562_27 L_27
  have L_26 : e2_gdM M p l e R s m args below meth c Q D cA A ads r0 2 al_b562_26 [] E_b562_26 h_b562_26 := by
    refine e2_indL (u := 2) (j := 2) (lo := 2147483648) (hi := 2147483657) (b := 2) (dd := 0) hl0 (by decide) rfl rfl (Or.inr ⟨rfl, rfl⟩) rfl ci_b562_26 cj_b562_26 ?_
    intro r_26 k_26 hk_26 hp_26 hs_26 hn_26
    have hl_26 : r_26.length ≤ 3 := hs_26.len rfl
    have ha_26 := ha.ext hp_26
    exact e2_fromM hen ha_26 hcall (e2_cutA_ok (e2_fa (fun al st E h hc => hn_26 al st E h hc) (e2_fa (fun al st E h hc => (EN_27 al st E h hc).ext hp_26) e2_fz))) (hC [192, 195]) (X := e2x_230) ex2_230 2 ck_b562_26
  have EN_26 := e2_entL (u := 2) (j := 2) (lo := 2147483648) (hi := 2147483657) hl0 rfl rfl rfl ci_b562_26 cj_b562_26 L_26
  exact e2_from hen ha hcall (e2_cutA_ok (e2_fa (fun al st E h hc => EN_26 al st E h hc) e2_fz)) (hC [192, 195]) (X := e2x_230) ex2_230 0 ck_b562_e
/-! b563 X10_read -/
def as_b563 : List ev_V := [(2, 83, 0), (11, 0, 4294967295)]
def E_b563 : e2_E := [(2147483648, 2147583648, 0, 0), (2147483655, 2147483655, 1, 0)]
def bc290 : ev_C := (50, [(11, 2147483649, 2147483654), (11, 2147483649, 2147483654), (11, 2147483649, 2147483654), (11, 2147483649, 2147483654), (11, 2147483649, 2147483654), (11, 2147483649, 2147483654), (11, 2147483649, 2147483654), (11, 2147483648, 2147483654), (11, 2147483648, 2147483654), (11, 2147483648, 2147483654), (11, 2147483648, 2147483654), (11, 2147483648, 2147483654), (11, 2147483648, 2147483654), (11, 2147483648, 2147483654), (11, 2147483648, 2147483654), (11, 2147483648, 2147483654)])
def bn4053 : e2_Q1 := (bc290, bc3)
def bn4054 : e2_Q2 := (bn130, bn4053)
def bn4055 : e2_Q3 := (bn129, bn4054)
def bn4056 : e2_Q4 := (bn4055, bn3573)
def bn4057 : e2_Q5 := (bn4056, bn156)
def bn4058 : e2_Q6 := (bn4057, bn3621)
def bn4059 : e2_Q7 := (bn4058, bn3594)
def bn4060 : e2_Q8 := (bn3611, bn4059)
noncomputable def f_b563 : ev_H := (bn4060 : e2_Q8)
noncomputable def q_b563_0 : ev_H := (bn4060 : e2_Q8)
noncomputable def rs_b563 : e2_Rs := [((11, 2147483647, 2147483668), q_b563_0)]
noncomputable def s_b563 : e2_Sm := (230, as_b563, E_b563, f_b563, rs_b563)
noncomputable def S_b563 : List e2_Sm := [s_b554]
noncomputable def I_b563 : List e2_In := [(216, 1, e2x_216), (217, 1, e2x_217), (227, 2, e2x_227)]
set_option maxRecDepth 1000000 in
theorem co_b563 : e2_okSB E_b563.length as_b563 f_b563 rs_b563 = true := by decide +kernel
def al_b563_26 : List ev_V := [(2, 83, 0), (11, 0, 4294967295), (1, 2, 4294967296), (9, 0, 0), (9, 0, 0)]
def E_b563_26 : e2_E := [(2147483648, 2147583648, 0, 0), (2147483655, 2147483655, 1, 0), (2147483648, 2147483657, 2, 0)]
noncomputable def h_b563_26 : ev_H := (bn4060 : e2_Q8)
def al_b563_27 : List ev_V := [(2, 83, 0), (11, 0, 4294967295), (1, 2, 4294967296), (9, 0, 0), (9, 0, 0)]
def E_b563_27 : e2_E := [(2147483648, 2147583648, 0, 0), (2147483655, 2147483655, 1, 0), (2147483647, 2147483667, 2, 0)]
noncomputable def h_b563_27 : ev_H := (bn4060 : e2_Q8)
def al_b563_28 : List ev_V := [(2, 83, 0), (11, 0, 4294967295), (1, 2, 4294967296), (1, 3, 4294967296), (9, 0, 0)]
def E_b563_28 : e2_E := [(2147483648, 2147583648, 0, 0), (2147483655, 2147483655, 1, 0), (2147483648, 2147483667, 2, 0), (2147483648, 2147483657, 3, 0)]
noncomputable def h_b563_28 : ev_H := (bn4060 : e2_Q8)
def bn4061 : e2_Q7 := (bn4058, bn3630)
def bn4062 : e2_Q8 := (bn3611, bn4061)
noncomputable def h_b563_0 : ev_H := (bn4062 : e2_Q8)
def bn4063 : e2_Q7 := (bn4058, bn3648)
def bn4064 : e2_Q8 := (bn3611, bn4063)
noncomputable def h_b563_1 : ev_H := (bn4064 : e2_Q8)
def bn4065 : e2_Q7 := (bn4058, bn3656)
def bn4066 : e2_Q8 := (bn3611, bn4065)
noncomputable def h_b563_2 : ev_H := (bn4066 : e2_Q8)
def bn4067 : e2_Q7 := (bn4058, bn3664)
def bn4068 : e2_Q8 := (bn3611, bn4067)
noncomputable def h_b563_3 : ev_H := (bn4068 : e2_Q8)
def bn4069 : e2_Q7 := (bn4058, bn3672)
def bn4070 : e2_Q8 := (bn3611, bn4069)
noncomputable def h_b563_4 : ev_H := (bn4070 : e2_Q8)
def bn4071 : e2_Q7 := (bn4058, bn3680)
def bn4072 : e2_Q8 := (bn3611, bn4071)
noncomputable def h_b563_5 : ev_H := (bn4072 : e2_Q8)
def bn4073 : e2_Q7 := (bn4058, bn3688)
def bn4074 : e2_Q8 := (bn3611, bn4073)
noncomputable def h_b563_6 : ev_H := (bn4074 : e2_Q8)
def bn4075 : e2_Q7 := (bn4058, bn3696)
def bn4076 : e2_Q8 := (bn3611, bn4075)
noncomputable def h_b563_7 : ev_H := (bn4076 : e2_Q8)
def bn4077 : e2_Q7 := (bn4058, bn3704)
def bn4078 : e2_Q8 := (bn3611, bn4077)
noncomputable def h_b563_8 : ev_H := (bn4078 : e2_Q8)
def bn4079 : e2_Q7 := (bn4058, bn3712)
def bn4080 : e2_Q8 := (bn3611, bn4079)
noncomputable def h_b563_9 : ev_H := (bn4080 : e2_Q8)
def bn4081 : e2_Q7 := (bn4058, bn3720)
def bn4082 : e2_Q8 := (bn3611, bn4081)
noncomputable def h_b563_10 : ev_H := (bn4082 : e2_Q8)
def bn4083 : e2_Q7 := (bn4058, bn3728)
def bn4084 : e2_Q8 := (bn3611, bn4083)
noncomputable def h_b563_11 : ev_H := (bn4084 : e2_Q8)
def bn4085 : e2_Q7 := (bn4058, bn3736)
def bn4086 : e2_Q8 := (bn3611, bn4085)
noncomputable def h_b563_12 : ev_H := (bn4086 : e2_Q8)
def bn4087 : e2_Q7 := (bn4058, bn3744)
def bn4088 : e2_Q8 := (bn3611, bn4087)
noncomputable def h_b563_13 : ev_H := (bn4088 : e2_Q8)
def bn4089 : e2_Q7 := (bn4058, bn3752)
def bn4090 : e2_Q8 := (bn3611, bn4089)
noncomputable def h_b563_14 : ev_H := (bn4090 : e2_Q8)
def bn4091 : e2_Q7 := (bn4058, bn3760)
def bn4092 : e2_Q8 := (bn3611, bn4091)
noncomputable def h_b563_15 : ev_H := (bn4092 : e2_Q8)
def bn4093 : e2_Q7 := (bn4058, bn3768)
def bn4094 : e2_Q8 := (bn3611, bn4093)
noncomputable def h_b563_16 : ev_H := (bn4094 : e2_Q8)
def bn4095 : e2_Q7 := (bn4058, bn3776)
def bn4096 : e2_Q8 := (bn3611, bn4095)
noncomputable def h_b563_17 : ev_H := (bn4096 : e2_Q8)
def bn4097 : e2_Q7 := (bn4058, bn3784)
def bn4098 : e2_Q8 := (bn3611, bn4097)
noncomputable def h_b563_18 : ev_H := (bn4098 : e2_Q8)
def bn4099 : e2_Q7 := (bn4058, bn3792)
def bn4100 : e2_Q8 := (bn3611, bn4099)
noncomputable def h_b563_19 : ev_H := (bn4100 : e2_Q8)
noncomputable def h_b563_20 : ev_H := (bn4060 : e2_Q8)
def bn4101 : e2_Q7 := (bn4058, bn3800)
def bn4102 : e2_Q8 := (bn3611, bn4101)
noncomputable def h_b563_21 : ev_H := (bn4102 : e2_Q8)
noncomputable def h_b563_22 : ev_H := (bn4102 : e2_Q8)
noncomputable def h_b563_23 : ev_H := (bn4102 : e2_Q8)
noncomputable def h_b563_24 : ev_H := (bn4102 : e2_Q8)
noncomputable def h_b563_25 : ev_H := (bn4102 : e2_Q8)
noncomputable def cu_b563_120 : List e2_Cu := [([(2, 83, 0), (11, 0, 4294967295), (0, 0, 0), (0, 8, 0), (9, 0, 0)], [(2147483648, 2147583648, 0, 0), (2147483655, 2147483655, 1, 0)], h_b563_0),
  ([(2, 83, 0), (11, 0, 4294967295), (0, 1, 0), (11, 2147483648, 2147483656), (11, 2147483647, 2147483654)], [(2147483648, 2147583648, 0, 0), (2147483655, 2147483655, 1, 0)], h_b563_1),
  ([(2, 83, 0), (11, 0, 4294967295), (0, 2, 0), (11, 2147483648, 2147483656), (11, 2147483647, 2147483654)], [(2147483648, 2147583648, 0, 0), (2147483655, 2147483655, 1, 0)], h_b563_2),
  ([(2, 83, 0), (11, 0, 4294967295), (0, 3, 0), (11, 2147483648, 2147483656), (11, 2147483647, 2147483654)], [(2147483648, 2147583648, 0, 0), (2147483655, 2147483655, 1, 0)], h_b563_3),
  ([(2, 83, 0), (11, 0, 4294967295), (0, 4, 0), (11, 2147483648, 2147483656), (11, 2147483647, 2147483654)], [(2147483648, 2147583648, 0, 0), (2147483655, 2147483655, 1, 0)], h_b563_4),
  ([(2, 83, 0), (11, 0, 4294967295), (0, 5, 0), (11, 2147483648, 2147483656), (11, 2147483647, 2147483654)], [(2147483648, 2147583648, 0, 0), (2147483655, 2147483655, 1, 0)], h_b563_5),
  ([(2, 83, 0), (11, 0, 4294967295), (0, 6, 0), (11, 2147483648, 2147483656), (11, 2147483647, 2147483654)], [(2147483648, 2147583648, 0, 0), (2147483655, 2147483655, 1, 0)], h_b563_6),
  ([(2, 83, 0), (11, 0, 4294967295), (0, 7, 0), (11, 2147483648, 2147483656), (11, 2147483647, 2147483654)], [(2147483648, 2147583648, 0, 0), (2147483655, 2147483655, 1, 0)], h_b563_7),
  ([(2, 83, 0), (11, 0, 4294967295), (0, 8, 0), (11, 2147483648, 2147483656), (11, 2147483647, 2147483654)], [(2147483648, 2147583648, 0, 0), (2147483655, 2147483655, 1, 0)], h_b563_8),
  ([(2, 83, 0), (11, 0, 4294967295), (0, 9, 0), (11, 2147483648, 2147483656), (11, 2147483647, 2147483654)], [(2147483648, 2147583648, 0, 0), (2147483655, 2147483655, 1, 0)], h_b563_9),
  ([(2, 83, 0), (11, 0, 4294967295), (0, 10, 0), (11, 2147483648, 2147483656), (11, 2147483647, 2147483654)], [(2147483648, 2147583648, 0, 0), (2147483655, 2147483655, 1, 0)], h_b563_10),
  ([(2, 83, 0), (11, 0, 4294967295), (0, 11, 0), (11, 2147483648, 2147483656), (11, 2147483647, 2147483654)], [(2147483648, 2147583648, 0, 0), (2147483655, 2147483655, 1, 0)], h_b563_11),
  ([(2, 83, 0), (11, 0, 4294967295), (0, 12, 0), (11, 2147483648, 2147483656), (11, 2147483647, 2147483654)], [(2147483648, 2147583648, 0, 0), (2147483655, 2147483655, 1, 0)], h_b563_12),
  ([(2, 83, 0), (11, 0, 4294967295), (0, 13, 0), (11, 2147483648, 2147483656), (11, 2147483647, 2147483654)], [(2147483648, 2147583648, 0, 0), (2147483655, 2147483655, 1, 0)], h_b563_13),
  ([(2, 83, 0), (11, 0, 4294967295), (0, 14, 0), (11, 2147483648, 2147483656), (11, 2147483647, 2147483654)], [(2147483648, 2147583648, 0, 0), (2147483655, 2147483655, 1, 0)], h_b563_14),
  ([(2, 83, 0), (11, 0, 4294967295), (0, 15, 0), (11, 2147483648, 2147483656), (11, 2147483647, 2147483654)], [(2147483648, 2147583648, 0, 0), (2147483655, 2147483655, 1, 0)], h_b563_15),
  ([(2, 83, 0), (11, 0, 4294967295), (0, 16, 0), (11, 2147483648, 2147483656), (11, 2147483647, 2147483654)], [(2147483648, 2147583648, 0, 0), (2147483655, 2147483655, 1, 0)], h_b563_16),
  ([(2, 83, 0), (11, 0, 4294967295), (0, 17, 0), (11, 2147483648, 2147483656), (11, 2147483647, 2147483654)], [(2147483648, 2147583648, 0, 0), (2147483655, 2147483655, 1, 0)], h_b563_17),
  ([(2, 83, 0), (11, 0, 4294967295), (0, 18, 0), (11, 2147483648, 2147483656), (11, 2147483647, 2147483654)], [(2147483648, 2147583648, 0, 0), (2147483655, 2147483655, 1, 0)], h_b563_18),
  ([(2, 83, 0), (11, 0, 4294967295), (0, 19, 0), (11, 2147483648, 2147483656), (11, 2147483647, 2147483654)], [(2147483648, 2147583648, 0, 0), (2147483655, 2147483655, 1, 0)], h_b563_19),
  ([(2, 83, 0), (11, 0, 4294967295), (0, 20, 0), (11, 2147483648, 2147483656), (11, 2147483647, 2147483654)], [(2147483648, 2147583648, 0, 0), (2147483655, 2147483655, 1, 0)], h_b563_20),
  ([(2, 83, 0), (11, 0, 4294967295), (0, 21, 0), (11, 2147483648, 2147483654), (11, 2147483648, 2147483654)], [(2147483648, 2147583648, 0, 0), (2147483655, 2147483655, 1, 0)], h_b563_21),
  ([(2, 83, 0), (11, 0, 4294967295), (0, 22, 0), (11, 2147483648, 2147483654), (11, 2147483648, 2147483654)], [(2147483648, 2147583648, 0, 0), (2147483655, 2147483655, 1, 0)], h_b563_22),
  ([(2, 83, 0), (11, 0, 4294967295), (0, 23, 0), (11, 2147483648, 2147483654), (11, 2147483648, 2147483654)], [(2147483648, 2147583648, 0, 0), (2147483655, 2147483655, 1, 0)], h_b563_23),
  ([(2, 83, 0), (11, 0, 4294967295), (0, 24, 0), (11, 2147483648, 2147483654), (11, 2147483648, 2147483654)], [(2147483648, 2147583648, 0, 0), (2147483655, 2147483655, 1, 0)], h_b563_24),
  ([(2, 83, 0), (11, 0, 4294967295), (0, 25, 0), (11, 2147483648, 2147483654), (11, 2147483648, 2147483654)], [(2147483648, 2147583648, 0, 0), (2147483655, 2147483655, 1, 0)], h_b563_25)]
noncomputable def cl_b563_e : List (Nat × e2_S) := [(2, e2_cutL (al_b563_26.set 2 (11, 2147483648, 2147483657)) 2 (E_b563_26.take 2) h_b563_26)]
set_option maxRecDepth 1000000 in
theorem ck_b563_e : e2_run (e2_orG 231 83 11 2 2147483648 2147483668 as_b555 Eb_b555 f_b555 rs_b555 (e2_cal S_b563 I_b563 4000 1)) (e2_fin rs_b563) e2x_230 (e2_bpL cl_b563_e) (e2_cutA cl_b563_e) 4000 (e2_seek e2x_230 0) (e2_al 5 as_b563) [] E_b563 f_b563 = true := by decide +kernel
noncomputable def cl_b563_26 : List (Nat × e2_S) := [(2, e2_cutL (al_b563_26.set 2 (13, 10, 2147483657)) 2 (E_b563_26.take 2) h_b563_26),
  (49, e2_cutL (al_b563_27.set 2 (11, 2147483647, 2147483667)) 2 (E_b563_27.take 2) h_b563_27)]
set_option maxRecDepth 1000000 in
theorem ck_b563_26 : e2_runM (e2_orG 231 83 11 2 2147483648 2147483668 as_b555 Eb_b555 f_b555 rs_b555 (e2_cal S_b563 I_b563 4000 1)) (e2_fin rs_b563) e2x_230 (e2_bpL cl_b563_26) (e2_cutA cl_b563_26) 4000 (e2_seek e2x_230 2) al_b563_26 [] E_b563_26 h_b563_26 = true := by decide +kernel
set_option maxRecDepth 1000000 in
theorem ci_b563_26 : e2_idl 2 (al_b563_26.set 2 (9, 0, 0)) = true := by decide +kernel
set_option maxRecDepth 1000000 in
theorem cj_b563_26 : e2_idh 2 8 h_b563_26 = true := by decide +kernel
noncomputable def cl_b563_27 : List (Nat × e2_S) := [(120, e2_cutS cu_b563_120),
  (55, e2_cutL (al_b563_28.set 3 (11, 2147483648, 2147483657)) 3 (E_b563_28.take 3) h_b563_28)]
set_option maxRecDepth 1000000 in
theorem ck_b563_27 : e2_runM (e2_orG 231 83 11 2 2147483648 2147483668 as_b555 Eb_b555 f_b555 rs_b555 (e2_cal S_b563 I_b563 4000 1)) (e2_fin rs_b563) e2x_230 (e2_bpL cl_b563_27) (e2_cutA cl_b563_27) 4000 (e2_seek e2x_230 49) al_b563_27 [] E_b563_27 h_b563_27 = true := by decide +kernel
set_option maxRecDepth 1000000 in
theorem ci_b563_27 : e2_idl 2 (al_b563_27.set 2 (9, 0, 0)) = true := by decide +kernel
set_option maxRecDepth 1000000 in
theorem cj_b563_27 : e2_idh 2 8 h_b563_27 = true := by decide +kernel
noncomputable def cl_b563_28 : List (Nat × e2_S) := [(49, e2_cutL (al_b563_27.set 2 (12, 10, 2147483647)) 2 (E_b563_27.take 2) h_b563_27),
  (55, e2_cutL (al_b563_28.set 3 (13, 11, 2147483657)) 3 (E_b563_28.take 3) h_b563_28)]
set_option maxRecDepth 1000000 in
theorem ck_b563_28 : e2_runM (e2_orG 231 83 11 2 2147483648 2147483668 as_b555 Eb_b555 f_b555 rs_b555 (e2_cal S_b563 I_b563 4000 1)) (e2_fin rs_b563) e2x_230 (e2_bpL cl_b563_28) (e2_cutA cl_b563_28) 4000 (e2_seek e2x_230 55) al_b563_28 [] E_b563_28 h_b563_28 = true := by decide +kernel
set_option maxRecDepth 1000000 in
theorem ci_b563_28 : e2_idl 3 (al_b563_28.set 3 (9, 0, 0)) = true := by decide +kernel
set_option maxRecDepth 1000000 in
theorem cj_b563_28 : e2_idh 3 8 h_b563_28 = true := by decide +kernel
set_option maxRecDepth 1000000 in
theorem ck_b563_u120 : e2_cutsB (e2_orG 231 83 11 2 2147483648 2147483668 as_b555 Eb_b555 f_b555 rs_b555 (e2_cal S_b563 I_b563 4000 1)) (e2_fin rs_b563) e2x_230 120 4000 cu_b563_120 = true := by decide +kernel
theorem cs_b563 (hen : en_ok) (l : Launch) : e2_smOk l 5 s_b563 := by
  refine e2_conC (H := 4) (C := evd_230) ei_230 (fun d hd => (e2_orG_ok (e2_cal_ok hen (e2_fa (cs_b554 hen l) e2_fz) (e2_fa ein_216 (e2_fa ein_217 (e2_fa ein_227 e2_fz))) 1 d (by omega)) rfl (by decide) (fun M hM => (cs_b555 hen l).2 M hM d (by omega)) (e2_okGB_ok cog_b555))) (by decide) co_b563 fun M d _ hC hcall p e R s m args below meth c Q D cA A ads r0 ha hl0 => ?_
  have EN_120 := e2_cutS_ok (bp := 120) (cuts := cu_b563_120) (e2_cuts_len hl0 (by decide +kernel)) (e2_cuts_ok hen ha hcall (hC [192, 195]) (X := e2x_230) ex2_230 (e2_cuts_len hl0 (by decide +kernel)) ck_b563_u120)
  have L_27 : e2_gdM M p l e R s m args below meth c Q D cA A ads r0 49 al_b563_27 [] E_b563_27 h_b563_27 := by
    refine e2_indD (u := 2) (j := 2) (lo := 2147483647) (hi := 2147483667) hl0 (by decide) rfl rfl rfl ci_b563_27 cj_b563_27 ?_
    intro r_27 k_27 hk_27 hp_27 hs_27 hn_27
    have hl_27 : r_27.length ≤ 3 := hs_27.len rfl
    have ha_27 := ha.ext hp_27
    have L_28 : e2_gdM M p l e R s m args below meth c Q D cA A ads r_27 55 al_b563_28 [] E_b563_28 h_b563_28 := by
      refine e2_indL (u := 3) (j := 3) (lo := 2147483648) (hi := 2147483657) (b := 3) (dd := 0) hl_27 (by decide) rfl rfl (Or.inr ⟨rfl, rfl⟩) rfl ci_b563_28 cj_b563_28 ?_
      intro r_28 k_28 hk_28 hp_28 hs_28 hn_28
      have hl_28 : r_28.length ≤ 4 := hs_28.len rfl
      have ha_28 := ha_27.ext hp_28
      exact e2_fromM hen ha_28 hcall (e2_cutA_ok (e2_fa (fun al st E h hc => (hn_27 al st E h hc).ext hp_28) (e2_fa (fun al st E h hc => hn_28 al st E h hc) e2_fz))) (hC [192, 195]) (X := e2x_230) ex2_230 55 ck_b563_28
    have EN_28 := e2_entL (u := 3) (j := 3) (lo := 2147483648) (hi := 2147483657) hl_27 rfl rfl rfl ci_b563_28 cj_b563_28 L_28
    exact e2_fromM hen ha_27 hcall (e2_cutA_ok (e2_fa (fun al st E h hc => (EN_120 al st E h hc).ext hp_27) (e2_fa (fun al st E h hc => EN_28 al st E h hc) e2_fz))) (hC [192, 195]) (X := e2x_230) ex2_230 49 ck_b563_27
  have EN_27 := e2_entL (u := 2) (j := 2) (lo := 2147483647) (hi := 2147483667) hl0 rfl rfl rfl ci_b563_27 cj_b563_27 L_27
  have L_26 : e2_gdM M p l e R s m args below meth c Q D cA A ads r0 2 al_b563_26 [] E_b563_26 h_b563_26 := by
    refine e2_indL (u := 2) (j := 2) (lo := 2147483648) (hi := 2147483657) (b := 2) (dd := 0) hl0 (by decide) rfl rfl (Or.inr ⟨rfl, rfl⟩) rfl ci_b563_26 cj_b563_26 ?_
    intro r_26 k_26 hk_26 hp_26 hs_26 hn_26
    have hl_26 : r_26.length ≤ 3 := hs_26.len rfl
    have ha_26 := ha.ext hp_26
    exact e2_fromM hen ha_26 hcall (e2_cutA_ok (e2_fa (fun al st E h hc => hn_26 al st E h hc) (e2_fa (fun al st E h hc => (EN_27 al st E h hc).ext hp_26) e2_fz))) (hC [192, 195]) (X := e2x_230) ex2_230 2 ck_b563_26
  have EN_26 := e2_entL (u := 2) (j := 2) (lo := 2147483648) (hi := 2147483657) hl0 rfl rfl rfl ci_b563_26 cj_b563_26 L_26
  exact e2_from hen ha hcall (e2_cutA_ok (e2_fa (fun al st E h hc => EN_26 al st E h hc) e2_fz)) (hC [192, 195]) (X := e2x_230) ex2_230 0 ck_b563_e
/-! b564 X10_read -/
def as_b564 : List ev_V := [(2, 83, 0), (11, 0, 4294967295)]
def E_b564 : e2_E := [(2147483648, 2147583648, 0, 0), (2147483656, 2147483656, 1, 0)]
def bc291 : ev_C := (50, [(11, 2147483649, 2147483654), (11, 2147483649, 2147483654), (11, 2147483649, 2147483654), (11, 2147483649, 2147483654), (11, 2147483649, 2147483654), (11, 2147483649, 2147483654), (11, 2147483649, 2147483654), (11, 2147483649, 2147483654), (11, 2147483648, 2147483654), (11, 2147483648, 2147483654), (11, 2147483648, 2147483654), (11, 2147483648, 2147483654), (11, 2147483648, 2147483654), (11, 2147483648, 2147483654), (11, 2147483648, 2147483654), (11, 2147483648, 2147483654)])
def bn4103 : e2_Q1 := (bc291, bc3)
def bn4104 : e2_Q2 := (bn130, bn4103)
def bn4105 : e2_Q3 := (bn129, bn4104)
def bn4106 : e2_Q4 := (bn4105, bn3573)
def bn4107 : e2_Q5 := (bn4106, bn156)
def bn4108 : e2_Q6 := (bn4107, bn3621)
def bn4109 : e2_Q7 := (bn4108, bn3594)
def bn4110 : e2_Q8 := (bn3611, bn4109)
noncomputable def f_b564 : ev_H := (bn4110 : e2_Q8)
noncomputable def q_b564_0 : ev_H := (bn4110 : e2_Q8)
noncomputable def rs_b564 : e2_Rs := [((11, 2147483647, 2147483668), q_b564_0)]
noncomputable def s_b564 : e2_Sm := (230, as_b564, E_b564, f_b564, rs_b564)
noncomputable def S_b564 : List e2_Sm := [s_b554]
noncomputable def I_b564 : List e2_In := [(216, 1, e2x_216), (217, 1, e2x_217), (227, 2, e2x_227)]
set_option maxRecDepth 1000000 in
theorem co_b564 : e2_okSB E_b564.length as_b564 f_b564 rs_b564 = true := by decide +kernel
def al_b564_26 : List ev_V := [(2, 83, 0), (11, 0, 4294967295), (1, 2, 4294967296), (9, 0, 0), (9, 0, 0)]
def E_b564_26 : e2_E := [(2147483648, 2147583648, 0, 0), (2147483656, 2147483656, 1, 0), (2147483648, 2147483657, 2, 0)]
noncomputable def h_b564_26 : ev_H := (bn4110 : e2_Q8)
def al_b564_27 : List ev_V := [(2, 83, 0), (11, 0, 4294967295), (1, 2, 4294967296), (9, 0, 0), (9, 0, 0)]
def E_b564_27 : e2_E := [(2147483648, 2147583648, 0, 0), (2147483656, 2147483656, 1, 0), (2147483647, 2147483667, 2, 0)]
noncomputable def h_b564_27 : ev_H := (bn4110 : e2_Q8)
def al_b564_28 : List ev_V := [(2, 83, 0), (11, 0, 4294967295), (1, 2, 4294967296), (1, 3, 4294967296), (9, 0, 0)]
def E_b564_28 : e2_E := [(2147483648, 2147583648, 0, 0), (2147483656, 2147483656, 1, 0), (2147483648, 2147483667, 2, 0), (2147483648, 2147483657, 3, 0)]
noncomputable def h_b564_28 : ev_H := (bn4110 : e2_Q8)
def bn4111 : e2_Q7 := (bn4108, bn3630)
def bn4112 : e2_Q8 := (bn3611, bn4111)
noncomputable def h_b564_0 : ev_H := (bn4112 : e2_Q8)
def bn4113 : e2_Q7 := (bn4108, bn3648)
def bn4114 : e2_Q8 := (bn3611, bn4113)
noncomputable def h_b564_1 : ev_H := (bn4114 : e2_Q8)
def bn4115 : e2_Q7 := (bn4108, bn3656)
def bn4116 : e2_Q8 := (bn3611, bn4115)
noncomputable def h_b564_2 : ev_H := (bn4116 : e2_Q8)
def bn4117 : e2_Q7 := (bn4108, bn3664)
def bn4118 : e2_Q8 := (bn3611, bn4117)
noncomputable def h_b564_3 : ev_H := (bn4118 : e2_Q8)
def bn4119 : e2_Q7 := (bn4108, bn3672)
def bn4120 : e2_Q8 := (bn3611, bn4119)
noncomputable def h_b564_4 : ev_H := (bn4120 : e2_Q8)
def bn4121 : e2_Q7 := (bn4108, bn3680)
def bn4122 : e2_Q8 := (bn3611, bn4121)
noncomputable def h_b564_5 : ev_H := (bn4122 : e2_Q8)
def bn4123 : e2_Q7 := (bn4108, bn3688)
def bn4124 : e2_Q8 := (bn3611, bn4123)
noncomputable def h_b564_6 : ev_H := (bn4124 : e2_Q8)
def bn4125 : e2_Q7 := (bn4108, bn3696)
def bn4126 : e2_Q8 := (bn3611, bn4125)
noncomputable def h_b564_7 : ev_H := (bn4126 : e2_Q8)
def bn4127 : e2_Q7 := (bn4108, bn3704)
def bn4128 : e2_Q8 := (bn3611, bn4127)
noncomputable def h_b564_8 : ev_H := (bn4128 : e2_Q8)
def bn4129 : e2_Q7 := (bn4108, bn3712)
def bn4130 : e2_Q8 := (bn3611, bn4129)
noncomputable def h_b564_9 : ev_H := (bn4130 : e2_Q8)
def bn4131 : e2_Q7 := (bn4108, bn3720)
def bn4132 : e2_Q8 := (bn3611, bn4131)
noncomputable def h_b564_10 : ev_H := (bn4132 : e2_Q8)
def bn4133 : e2_Q7 := (bn4108, bn3728)
def bn4134 : e2_Q8 := (bn3611, bn4133)
noncomputable def h_b564_11 : ev_H := (bn4134 : e2_Q8)
def bn4135 : e2_Q7 := (bn4108, bn3736)
def bn4136 : e2_Q8 := (bn3611, bn4135)
noncomputable def h_b564_12 : ev_H := (bn4136 : e2_Q8)
def bn4137 : e2_Q7 := (bn4108, bn3744)
def bn4138 : e2_Q8 := (bn3611, bn4137)
noncomputable def h_b564_13 : ev_H := (bn4138 : e2_Q8)
def bn4139 : e2_Q7 := (bn4108, bn3752)
def bn4140 : e2_Q8 := (bn3611, bn4139)
noncomputable def h_b564_14 : ev_H := (bn4140 : e2_Q8)
def bn4141 : e2_Q7 := (bn4108, bn3760)
def bn4142 : e2_Q8 := (bn3611, bn4141)
noncomputable def h_b564_15 : ev_H := (bn4142 : e2_Q8)
def bn4143 : e2_Q7 := (bn4108, bn3768)
def bn4144 : e2_Q8 := (bn3611, bn4143)
noncomputable def h_b564_16 : ev_H := (bn4144 : e2_Q8)
def bn4145 : e2_Q7 := (bn4108, bn3776)
def bn4146 : e2_Q8 := (bn3611, bn4145)
noncomputable def h_b564_17 : ev_H := (bn4146 : e2_Q8)
def bn4147 : e2_Q7 := (bn4108, bn3784)
def bn4148 : e2_Q8 := (bn3611, bn4147)
noncomputable def h_b564_18 : ev_H := (bn4148 : e2_Q8)
def bn4149 : e2_Q7 := (bn4108, bn3792)
def bn4150 : e2_Q8 := (bn3611, bn4149)
noncomputable def h_b564_19 : ev_H := (bn4150 : e2_Q8)
noncomputable def h_b564_20 : ev_H := (bn4110 : e2_Q8)
def bn4151 : e2_Q7 := (bn4108, bn3800)
def bn4152 : e2_Q8 := (bn3611, bn4151)
noncomputable def h_b564_21 : ev_H := (bn4152 : e2_Q8)
noncomputable def h_b564_22 : ev_H := (bn4152 : e2_Q8)
noncomputable def h_b564_23 : ev_H := (bn4152 : e2_Q8)
noncomputable def h_b564_24 : ev_H := (bn4152 : e2_Q8)
noncomputable def h_b564_25 : ev_H := (bn4152 : e2_Q8)
noncomputable def cu_b564_120 : List e2_Cu := [([(2, 83, 0), (11, 0, 4294967295), (0, 0, 0), (0, 8, 0), (9, 0, 0)], [(2147483648, 2147583648, 0, 0), (2147483656, 2147483656, 1, 0)], h_b564_0),
  ([(2, 83, 0), (11, 0, 4294967295), (0, 1, 0), (11, 2147483648, 2147483656), (11, 2147483647, 2147483655)], [(2147483648, 2147583648, 0, 0), (2147483656, 2147483656, 1, 0)], h_b564_1),
  ([(2, 83, 0), (11, 0, 4294967295), (0, 2, 0), (11, 2147483648, 2147483656), (11, 2147483647, 2147483655)], [(2147483648, 2147583648, 0, 0), (2147483656, 2147483656, 1, 0)], h_b564_2),
  ([(2, 83, 0), (11, 0, 4294967295), (0, 3, 0), (11, 2147483648, 2147483656), (11, 2147483647, 2147483655)], [(2147483648, 2147583648, 0, 0), (2147483656, 2147483656, 1, 0)], h_b564_3),
  ([(2, 83, 0), (11, 0, 4294967295), (0, 4, 0), (11, 2147483648, 2147483656), (11, 2147483647, 2147483655)], [(2147483648, 2147583648, 0, 0), (2147483656, 2147483656, 1, 0)], h_b564_4),
  ([(2, 83, 0), (11, 0, 4294967295), (0, 5, 0), (11, 2147483648, 2147483656), (11, 2147483647, 2147483655)], [(2147483648, 2147583648, 0, 0), (2147483656, 2147483656, 1, 0)], h_b564_5),
  ([(2, 83, 0), (11, 0, 4294967295), (0, 6, 0), (11, 2147483648, 2147483656), (11, 2147483647, 2147483655)], [(2147483648, 2147583648, 0, 0), (2147483656, 2147483656, 1, 0)], h_b564_6),
  ([(2, 83, 0), (11, 0, 4294967295), (0, 7, 0), (11, 2147483648, 2147483656), (11, 2147483647, 2147483655)], [(2147483648, 2147583648, 0, 0), (2147483656, 2147483656, 1, 0)], h_b564_7),
  ([(2, 83, 0), (11, 0, 4294967295), (0, 8, 0), (11, 2147483648, 2147483656), (11, 2147483647, 2147483655)], [(2147483648, 2147583648, 0, 0), (2147483656, 2147483656, 1, 0)], h_b564_8),
  ([(2, 83, 0), (11, 0, 4294967295), (0, 9, 0), (11, 2147483648, 2147483656), (11, 2147483647, 2147483655)], [(2147483648, 2147583648, 0, 0), (2147483656, 2147483656, 1, 0)], h_b564_9),
  ([(2, 83, 0), (11, 0, 4294967295), (0, 10, 0), (11, 2147483648, 2147483656), (11, 2147483647, 2147483655)], [(2147483648, 2147583648, 0, 0), (2147483656, 2147483656, 1, 0)], h_b564_10),
  ([(2, 83, 0), (11, 0, 4294967295), (0, 11, 0), (11, 2147483648, 2147483656), (11, 2147483647, 2147483655)], [(2147483648, 2147583648, 0, 0), (2147483656, 2147483656, 1, 0)], h_b564_11),
  ([(2, 83, 0), (11, 0, 4294967295), (0, 12, 0), (11, 2147483648, 2147483656), (11, 2147483647, 2147483655)], [(2147483648, 2147583648, 0, 0), (2147483656, 2147483656, 1, 0)], h_b564_12),
  ([(2, 83, 0), (11, 0, 4294967295), (0, 13, 0), (11, 2147483648, 2147483656), (11, 2147483647, 2147483655)], [(2147483648, 2147583648, 0, 0), (2147483656, 2147483656, 1, 0)], h_b564_13),
  ([(2, 83, 0), (11, 0, 4294967295), (0, 14, 0), (11, 2147483648, 2147483656), (11, 2147483647, 2147483655)], [(2147483648, 2147583648, 0, 0), (2147483656, 2147483656, 1, 0)], h_b564_14),
  ([(2, 83, 0), (11, 0, 4294967295), (0, 15, 0), (11, 2147483648, 2147483656), (11, 2147483647, 2147483655)], [(2147483648, 2147583648, 0, 0), (2147483656, 2147483656, 1, 0)], h_b564_15),
  ([(2, 83, 0), (11, 0, 4294967295), (0, 16, 0), (11, 2147483648, 2147483656), (11, 2147483647, 2147483655)], [(2147483648, 2147583648, 0, 0), (2147483656, 2147483656, 1, 0)], h_b564_16),
  ([(2, 83, 0), (11, 0, 4294967295), (0, 17, 0), (11, 2147483648, 2147483656), (11, 2147483647, 2147483655)], [(2147483648, 2147583648, 0, 0), (2147483656, 2147483656, 1, 0)], h_b564_17),
  ([(2, 83, 0), (11, 0, 4294967295), (0, 18, 0), (11, 2147483648, 2147483656), (11, 2147483647, 2147483655)], [(2147483648, 2147583648, 0, 0), (2147483656, 2147483656, 1, 0)], h_b564_18),
  ([(2, 83, 0), (11, 0, 4294967295), (0, 19, 0), (11, 2147483648, 2147483656), (11, 2147483647, 2147483655)], [(2147483648, 2147583648, 0, 0), (2147483656, 2147483656, 1, 0)], h_b564_19),
  ([(2, 83, 0), (11, 0, 4294967295), (0, 20, 0), (11, 2147483648, 2147483656), (11, 2147483647, 2147483655)], [(2147483648, 2147583648, 0, 0), (2147483656, 2147483656, 1, 0)], h_b564_20),
  ([(2, 83, 0), (11, 0, 4294967295), (0, 21, 0), (11, 2147483648, 2147483655), (11, 2147483648, 2147483655)], [(2147483648, 2147583648, 0, 0), (2147483656, 2147483656, 1, 0)], h_b564_21),
  ([(2, 83, 0), (11, 0, 4294967295), (0, 22, 0), (11, 2147483648, 2147483655), (11, 2147483648, 2147483655)], [(2147483648, 2147583648, 0, 0), (2147483656, 2147483656, 1, 0)], h_b564_22),
  ([(2, 83, 0), (11, 0, 4294967295), (0, 23, 0), (11, 2147483648, 2147483655), (11, 2147483648, 2147483655)], [(2147483648, 2147583648, 0, 0), (2147483656, 2147483656, 1, 0)], h_b564_23),
  ([(2, 83, 0), (11, 0, 4294967295), (0, 24, 0), (11, 2147483648, 2147483655), (11, 2147483648, 2147483655)], [(2147483648, 2147583648, 0, 0), (2147483656, 2147483656, 1, 0)], h_b564_24),
  ([(2, 83, 0), (11, 0, 4294967295), (0, 25, 0), (11, 2147483648, 2147483655), (11, 2147483648, 2147483655)], [(2147483648, 2147583648, 0, 0), (2147483656, 2147483656, 1, 0)], h_b564_25)]
noncomputable def cl_b564_e : List (Nat × e2_S) := [(2, e2_cutL (al_b564_26.set 2 (11, 2147483648, 2147483657)) 2 (E_b564_26.take 2) h_b564_26)]
set_option maxRecDepth 1000000 in
theorem ck_b564_e : e2_run (e2_orG 231 83 11 2 2147483648 2147483668 as_b555 Eb_b555 f_b555 rs_b555 (e2_cal S_b564 I_b564 4000 1)) (e2_fin rs_b564) e2x_230 (e2_bpL cl_b564_e) (e2_cutA cl_b564_e) 4000 (e2_seek e2x_230 0) (e2_al 5 as_b564) [] E_b564 f_b564 = true := by decide +kernel
noncomputable def cl_b564_26 : List (Nat × e2_S) := [(2, e2_cutL (al_b564_26.set 2 (13, 10, 2147483657)) 2 (E_b564_26.take 2) h_b564_26),
  (49, e2_cutL (al_b564_27.set 2 (11, 2147483647, 2147483667)) 2 (E_b564_27.take 2) h_b564_27)]
set_option maxRecDepth 1000000 in
theorem ck_b564_26 : e2_runM (e2_orG 231 83 11 2 2147483648 2147483668 as_b555 Eb_b555 f_b555 rs_b555 (e2_cal S_b564 I_b564 4000 1)) (e2_fin rs_b564) e2x_230 (e2_bpL cl_b564_26) (e2_cutA cl_b564_26) 4000 (e2_seek e2x_230 2) al_b564_26 [] E_b564_26 h_b564_26 = true := by decide +kernel
set_option maxRecDepth 1000000 in
theorem ci_b564_26 : e2_idl 2 (al_b564_26.set 2 (9, 0, 0)) = true := by decide +kernel
set_option maxRecDepth 1000000 in
theorem cj_b564_26 : e2_idh 2 8 h_b564_26 = true := by decide +kernel
noncomputable def cl_b564_27 : List (Nat × e2_S) := [(120, e2_cutS cu_b564_120),
  (55, e2_cutL (al_b564_28.set 3 (11, 2147483648, 2147483657)) 3 (E_b564_28.take 3) h_b564_28)]
set_option maxRecDepth 1000000 in
theorem ck_b564_27 : e2_runM (e2_orG 231 83 11 2 2147483648 2147483668 as_b555 Eb_b555 f_b555 rs_b555 (e2_cal S_b564 I_b564 4000 1)) (e2_fin rs_b564) e2x_230 (e2_bpL cl_b564_27) (e2_cutA cl_b564_27) 4000 (e2_seek e2x_230 49) al_b564_27 [] E_b564_27 h_b564_27 = true := by decide +kernel
set_option maxRecDepth 1000000 in
theorem ci_b564_27 : e2_idl 2 (al_b564_27.set 2 (9, 0, 0)) = true := by decide +kernel
set_option maxRecDepth 1000000 in
theorem cj_b564_27 : e2_idh 2 8 h_b564_27 = true := by decide +kernel
noncomputable def cl_b564_28 : List (Nat × e2_S) := [(49, e2_cutL (al_b564_27.set 2 (12, 10, 2147483647)) 2 (E_b564_27.take 2) h_b564_27),
  (55, e2_cutL (al_b564_28.set 3 (13, 11, 2147483657)) 3 (E_b564_28.take 3) h_b564_28)]
set_option maxRecDepth 1000000 in
theorem ck_b564_28 : e2_runM (e2_orG 231 83 11 2 2147483648 2147483668 as_b555 Eb_b555 f_b555 rs_b555 (e2_cal S_b564 I_b564 4000 1)) (e2_fin rs_b564) e2x_230 (e2_bpL cl_b564_28) (e2_cutA cl_b564_28) 4000 (e2_seek e2x_230 55) al_b564_28 [] E_b564_28 h_b564_28 = true := by decide +kernel
set_option maxRecDepth 1000000 in
theorem ci_b564_28 : e2_idl 3 (al_b564_28.set 3 (9, 0, 0)) = true := by decide +kernel
set_option maxRecDepth 1000000 in
theorem cj_b564_28 : e2_idh 3 8 h_b564_28 = true := by decide +kernel
set_option maxRecDepth 1000000 in
theorem ck_b564_u120 : e2_cutsB (e2_orG 231 83 11 2 2147483648 2147483668 as_b555 Eb_b555 f_b555 rs_b555 (e2_cal S_b564 I_b564 4000 1)) (e2_fin rs_b564) e2x_230 120 4000 cu_b564_120 = true := by decide +kernel
theorem cs_b564 (hen : en_ok) (l : Launch) : e2_smOk l 5 s_b564 := by
  refine e2_conC (H := 4) (C := evd_230) ei_230 (fun d hd => (e2_orG_ok (e2_cal_ok hen (e2_fa (cs_b554 hen l) e2_fz) (e2_fa ein_216 (e2_fa ein_217 (e2_fa ein_227 e2_fz))) 1 d (by omega)) rfl (by decide) (fun M hM => (cs_b555 hen l).2 M hM d (by omega)) (e2_okGB_ok cog_b555))) (by decide) co_b564 fun M d _ hC hcall p e R s m args below meth c Q D cA A ads r0 ha hl0 => ?_
  have EN_120 := e2_cutS_ok (bp := 120) (cuts := cu_b564_120) (e2_cuts_len hl0 (by decide +kernel)) (e2_cuts_ok hen ha hcall (hC [192, 195]) (X := e2x_230) ex2_230 (e2_cuts_len hl0 (by decide +kernel)) ck_b564_u120)
  have L_27 : e2_gdM M p l e R s m args below meth c Q D cA A ads r0 49 al_b564_27 [] E_b564_27 h_b564_27 := by
    refine e2_indD (u := 2) (j := 2) (lo := 2147483647) (hi := 2147483667) hl0 (by decide) rfl rfl rfl ci_b564_27 cj_b564_27 ?_
    intro r_27 k_27 hk_27 hp_27 hs_27 hn_27
    have hl_27 : r_27.length ≤ 3 := hs_27.len rfl
    have ha_27 := ha.ext hp_27
    have L_28 : e2_gdM M p l e R s m args below meth c Q D cA A ads r_27 55 al_b564_28 [] E_b564_28 h_b564_28 := by
      refine e2_indL (u := 3) (j := 3) (lo := 2147483648) (hi := 2147483657) (b := 3) (dd := 0) hl_27 (by decide) rfl rfl (Or.inr ⟨rfl, rfl⟩) rfl ci_b564_28 cj_b564_28 ?_
      intro r_28 k_28 hk_28 hp_28 hs_28 hn_28
      have hl_28 : r_28.length ≤ 4 := hs_28.len rfl
      have ha_28 := ha_27.ext hp_28
      exact e2_fromM hen ha_28 hcall (e2_cutA_ok (e2_fa (fun al st E h hc => (hn_27 al st E h hc).ext hp_28) (e2_fa (fun al st E h hc => hn_28 al st E h hc) e2_fz))) (hC [192, 195]) (X := e2x_230) ex2_230 55 ck_b564_28
    have EN_28 := e2_entL (u := 3) (j := 3) (lo := 2147483648) (hi := 2147483657) hl_27 rfl rfl rfl ci_b564_28 cj_b564_28 L_28
    exact e2_fromM hen ha_27 hcall (e2_cutA_ok (e2_fa (fun al st E h hc => (EN_120 al st E h hc).ext hp_27) (e2_fa (fun al st E h hc => EN_28 al st E h hc) e2_fz))) (hC [192, 195]) (X := e2x_230) ex2_230 49 ck_b564_27
  have EN_27 := e2_entL (u := 2) (j := 2) (lo := 2147483647) (hi := 2147483667) hl0 rfl rfl rfl ci_b564_27 cj_b564_27 L_27
  have L_26 : e2_gdM M p l e R s m args below meth c Q D cA A ads r0 2 al_b564_26 [] E_b564_26 h_b564_26 := by
    refine e2_indL (u := 2) (j := 2) (lo := 2147483648) (hi := 2147483657) (b := 2) (dd := 0) hl0 (by decide) rfl rfl (Or.inr ⟨rfl, rfl⟩) rfl ci_b564_26 cj_b564_26 ?_
    intro r_26 k_26 hk_26 hp_26 hs_26 hn_26
    have hl_26 : r_26.length ≤ 3 := hs_26.len rfl
    have ha_26 := ha.ext hp_26
    exact e2_fromM hen ha_26 hcall (e2_cutA_ok (e2_fa (fun al st E h hc => hn_26 al st E h hc) (e2_fa (fun al st E h hc => (EN_27 al st E h hc).ext hp_26) e2_fz))) (hC [192, 195]) (X := e2x_230) ex2_230 2 ck_b564_26
  have EN_26 := e2_entL (u := 2) (j := 2) (lo := 2147483648) (hi := 2147483657) hl0 rfl rfl rfl ci_b564_26 cj_b564_26 L_26
  exact e2_from hen ha hcall (e2_cutA_ok (e2_fa (fun al st E h hc => EN_26 al st E h hc) e2_fz)) (hC [192, 195]) (X := e2x_230) ex2_230 0 ck_b564_e
/-! b565 X10_read, by the values of the second variable -/
def as_b565 : List ev_V := [(2, 83, 0), (11, 0, 4294967295)]
def E_b565 : e2_E := [(2147483648, 2147583648, 0, 0), (2147483648, 2147483656, 1, 0)]
def bn4153 : e2_Q6 := (bn3575, bn3621)
def bn4154 : e2_Q7 := (bn4153, bn3594)
def bn4155 : e2_Q8 := (bn3611, bn4154)
noncomputable def f_b565 : ev_H := (bn4155 : e2_Q8)
noncomputable def q_b565_0 : ev_H := (bn4155 : e2_Q8)
noncomputable def rs_b565 : e2_Rs := [((11, 2147483647, 2147483668), q_b565_0)]
noncomputable def s_b565 : e2_Sm := (230, as_b565, E_b565, f_b565, rs_b565)
set_option maxRecDepth 1000000 in
theorem co_b565 : e2_okSB E_b565.length as_b565 f_b565 rs_b565 = true := by decide +kernel
set_option maxRecDepth 1000000 in
theorem cp_b565_0 : e2_if (e2_lle (e2_vl9 (E_b565.set 1 (2147483648, 2147483648, 1, 0))) s_b556.2.1 as_b565) (e2_if (e2_pre s_b556.2.2.1.length s_b556.2.2.1 0 (E_b565.set 1 (2147483648, 2147483648, 1, 0))) (e2_if (e2_hlf (E_b565.set 1 (2147483648, 2147483648, 1, 0)) 8 s_b556.2.2.2.1 f_b565) (e2_allR s_b556.2.2.2.2 fun q => e2_fin rs_b565 q.1 (E_b565.set 1 (2147483648, 2147483648, 1, 0)) (e2_mrg 8 s_b556.2.2.2.1 q.2 f_b565)))) = true := by decide +kernel
set_option maxRecDepth 1000000 in
theorem cp_b565_1 : e2_if (e2_lle (e2_vl9 (E_b565.set 1 (2147483649, 2147483649, 1, 0))) s_b557.2.1 as_b565) (e2_if (e2_pre s_b557.2.2.1.length s_b557.2.2.1 0 (E_b565.set 1 (2147483649, 2147483649, 1, 0))) (e2_if (e2_hlf (E_b565.set 1 (2147483649, 2147483649, 1, 0)) 8 s_b557.2.2.2.1 f_b565) (e2_allR s_b557.2.2.2.2 fun q => e2_fin rs_b565 q.1 (E_b565.set 1 (2147483649, 2147483649, 1, 0)) (e2_mrg 8 s_b557.2.2.2.1 q.2 f_b565)))) = true := by decide +kernel
set_option maxRecDepth 1000000 in
theorem cp_b565_2 : e2_if (e2_lle (e2_vl9 (E_b565.set 1 (2147483650, 2147483650, 1, 0))) s_b558.2.1 as_b565) (e2_if (e2_pre s_b558.2.2.1.length s_b558.2.2.1 0 (E_b565.set 1 (2147483650, 2147483650, 1, 0))) (e2_if (e2_hlf (E_b565.set 1 (2147483650, 2147483650, 1, 0)) 8 s_b558.2.2.2.1 f_b565) (e2_allR s_b558.2.2.2.2 fun q => e2_fin rs_b565 q.1 (E_b565.set 1 (2147483650, 2147483650, 1, 0)) (e2_mrg 8 s_b558.2.2.2.1 q.2 f_b565)))) = true := by decide +kernel
set_option maxRecDepth 1000000 in
theorem cp_b565_3 : e2_if (e2_lle (e2_vl9 (E_b565.set 1 (2147483651, 2147483651, 1, 0))) s_b559.2.1 as_b565) (e2_if (e2_pre s_b559.2.2.1.length s_b559.2.2.1 0 (E_b565.set 1 (2147483651, 2147483651, 1, 0))) (e2_if (e2_hlf (E_b565.set 1 (2147483651, 2147483651, 1, 0)) 8 s_b559.2.2.2.1 f_b565) (e2_allR s_b559.2.2.2.2 fun q => e2_fin rs_b565 q.1 (E_b565.set 1 (2147483651, 2147483651, 1, 0)) (e2_mrg 8 s_b559.2.2.2.1 q.2 f_b565)))) = true := by decide +kernel
set_option maxRecDepth 1000000 in
theorem cp_b565_4 : e2_if (e2_lle (e2_vl9 (E_b565.set 1 (2147483652, 2147483652, 1, 0))) s_b560.2.1 as_b565) (e2_if (e2_pre s_b560.2.2.1.length s_b560.2.2.1 0 (E_b565.set 1 (2147483652, 2147483652, 1, 0))) (e2_if (e2_hlf (E_b565.set 1 (2147483652, 2147483652, 1, 0)) 8 s_b560.2.2.2.1 f_b565) (e2_allR s_b560.2.2.2.2 fun q => e2_fin rs_b565 q.1 (E_b565.set 1 (2147483652, 2147483652, 1, 0)) (e2_mrg 8 s_b560.2.2.2.1 q.2 f_b565)))) = true := by decide +kernel
set_option maxRecDepth 1000000 in
theorem cp_b565_5 : e2_if (e2_lle (e2_vl9 (E_b565.set 1 (2147483653, 2147483653, 1, 0))) s_b561.2.1 as_b565) (e2_if (e2_pre s_b561.2.2.1.length s_b561.2.2.1 0 (E_b565.set 1 (2147483653, 2147483653, 1, 0))) (e2_if (e2_hlf (E_b565.set 1 (2147483653, 2147483653, 1, 0)) 8 s_b561.2.2.2.1 f_b565) (e2_allR s_b561.2.2.2.2 fun q => e2_fin rs_b565 q.1 (E_b565.set 1 (2147483653, 2147483653, 1, 0)) (e2_mrg 8 s_b561.2.2.2.1 q.2 f_b565)))) = true := by decide +kernel
set_option maxRecDepth 1000000 in
theorem cp_b565_6 : e2_if (e2_lle (e2_vl9 (E_b565.set 1 (2147483654, 2147483654, 1, 0))) s_b562.2.1 as_b565) (e2_if (e2_pre s_b562.2.2.1.length s_b562.2.2.1 0 (E_b565.set 1 (2147483654, 2147483654, 1, 0))) (e2_if (e2_hlf (E_b565.set 1 (2147483654, 2147483654, 1, 0)) 8 s_b562.2.2.2.1 f_b565) (e2_allR s_b562.2.2.2.2 fun q => e2_fin rs_b565 q.1 (E_b565.set 1 (2147483654, 2147483654, 1, 0)) (e2_mrg 8 s_b562.2.2.2.1 q.2 f_b565)))) = true := by decide +kernel
set_option maxRecDepth 1000000 in
theorem cp_b565_7 : e2_if (e2_lle (e2_vl9 (E_b565.set 1 (2147483655, 2147483655, 1, 0))) s_b563.2.1 as_b565) (e2_if (e2_pre s_b563.2.2.1.length s_b563.2.2.1 0 (E_b565.set 1 (2147483655, 2147483655, 1, 0))) (e2_if (e2_hlf (E_b565.set 1 (2147483655, 2147483655, 1, 0)) 8 s_b563.2.2.2.1 f_b565) (e2_allR s_b563.2.2.2.2 fun q => e2_fin rs_b565 q.1 (E_b565.set 1 (2147483655, 2147483655, 1, 0)) (e2_mrg 8 s_b563.2.2.2.1 q.2 f_b565)))) = true := by decide +kernel
set_option maxRecDepth 1000000 in
theorem cp_b565_8 : e2_if (e2_lle (e2_vl9 (E_b565.set 1 (2147483656, 2147483656, 1, 0))) s_b564.2.1 as_b565) (e2_if (e2_pre s_b564.2.2.1.length s_b564.2.2.1 0 (E_b565.set 1 (2147483656, 2147483656, 1, 0))) (e2_if (e2_hlf (E_b565.set 1 (2147483656, 2147483656, 1, 0)) 8 s_b564.2.2.2.1 f_b565) (e2_allR s_b564.2.2.2.2 fun q => e2_fin rs_b565 q.1 (E_b565.set 1 (2147483656, 2147483656, 1, 0)) (e2_mrg 8 s_b564.2.2.2.1 q.2 f_b565)))) = true := by decide +kernel
theorem cs_b565 (hen : en_ok) (l : Launch) : e2_smOk l 5 s_b565 := by
  refine ⟨e2_okSB_ok co_b565, fun M hM d hd => e2_Met.split1 (E := E_b565) (lo := 2147483648) (hi := 2147483656) rfl fun s h1 h2 => ?_⟩
  have hs : s = 2147483648 ∨ s = 2147483649 ∨ s = 2147483650 ∨ s = 2147483651 ∨ s = 2147483652 ∨ s = 2147483653 ∨ s = 2147483654 ∨ s = 2147483655 ∨ s = 2147483656 := by omega
  rcases hs with rfl | rfl | rfl | rfl | rfl | rfl | rfl | rfl | rfl
  · exact e2_part1 (s := s_b556) (cs_b556 hen l) hM (Nat.le_trans (by decide) hd) cp_b565_0
  · exact e2_part1 (s := s_b557) (cs_b557 hen l) hM (Nat.le_trans (by decide) hd) cp_b565_1
  · exact e2_part1 (s := s_b558) (cs_b558 hen l) hM (Nat.le_trans (by decide) hd) cp_b565_2
  · exact e2_part1 (s := s_b559) (cs_b559 hen l) hM (Nat.le_trans (by decide) hd) cp_b565_3
  · exact e2_part1 (s := s_b560) (cs_b560 hen l) hM (Nat.le_trans (by decide) hd) cp_b565_4
  · exact e2_part1 (s := s_b561) (cs_b561 hen l) hM (Nat.le_trans (by decide) hd) cp_b565_5
  · exact e2_part1 (s := s_b562) (cs_b562 hen l) hM (Nat.le_trans (by decide) hd) cp_b565_6
  · exact e2_part1 (s := s_b563) (cs_b563 hen l) hM (Nat.le_trans (by decide) hd) cp_b565_7
  · exact e2_part1 (s := s_b564) (cs_b564 hen l) hM (Nat.le_trans (by decide) hd) cp_b565_8
